def sepL (v : VV) (k : Nat) : List Int := if k = 0 ∨ vk v = 2 then [] else if 0 < vc v ∧ k % vc v = 0 then [59] else [32]
/-- numbers with what parts them -/
def nmsL (v : VV) : Nat → List Int
  | 0 => []
  | k + 1 => nmsL v k ++ (sepL v k ++ numL (vn v k))
def sgn (x : Int64) : Int := if x.toInt < 32 ∨ 126 < x.toInt ∨ x.toInt = 39 then 46 else x.toInt
def sgsL (v : VV) : Nat → List Int
  | 0 => []
  | k + 1 => sgsL v k ++ [sgn (vn v k)]
def sgnL (v : VV) : List Int := (if vk v = 3 ∧ vm v = 1 then [44] else []) ++ ([39] ++ (sgsL v (vm v) ++ [39]))
def nstL (f : Nat → List Int) : Nat → List Int
  | 0 => []
  | k + 1 => nstL f k ++ ((if k = 0 then [] else [59]) ++ f k)
/-- a value, printed -/
def vaL : Nat → VV → List Int
  | 0, _ => []
  | d + 1, v => if vk v = 0 then numL (vn v 0) else if vk v = 1 ∨ vk v = 3 then sgnL v else if vk v = 2 then nmsL v (vm v) ++ [98] else if vk v = 6 then [91] ++ (nmsL v (vm v * vc v) ++ [93]) else if vk v = 7 then [40] ++ (nstL (fun k => vaL d (vd v k)) (vm v) ++ [41]) else (if vm v = 0 then [33, 48] else if vm v = 1 then [44] else []) ++ nmsL v (vm v)
theorem vaL_s (d : Nat) (v : VV) : vaL (d + 1) v = (if vk v = 0 then numL (vn v 0) else if vk v = 1 ∨ vk v = 3 then sgnL v else if vk v = 2 then nmsL v (vm v) ++ [98] else if vk v = 6 then [91] ++ (nmsL v (vm v * vc v) ++ [93]) else if vk v = 7 then [40] ++ (nstL (fun k => vaL d (vd v k)) (vm v) ++ [41]) else (if vm v = 0 then [33, 48] else if vm v = 1 then [44] else []) ++ nmsL v (vm v)) := rfl
theorem prt_take {h : mj_H} {o b g n : Nat} {l : List Int} (hP : prt h o b g n l) : l.take n = l := by
  obtain ⟨f, m, dg, -, -, -, hm, rfl⟩ := hP
  exact take_bl hm
set_option maxRecDepth 20000 in
theorem pm_X6_putNumbers : mj_mmof pg_ms 139 = some ((⟨"ArrayCalculator$Printer", "putNumbers", "(LArrayCalculator$Value;)V"⟩, prog_8_method_8_code, 3, (Option.none : Option Jvm.ClassFile.FieldType)), 6, false, mj_dec prog_8_method_8_code) := rfl
theorem dm_X6_putNumbers_0 : mj_dec prog_8_method_8_code 0 = some (.iconst 0, 1) := by decide +kernel
theorem dm_X6_putNumbers_1 : mj_dec prog_8_method_8_code 1 = some (.istore_n 2, 1) := by decide +kernel
theorem dm_X6_putNumbers_2 : mj_dec prog_8_method_8_code 2 = some (.iload_n 2, 1) := by decide +kernel
theorem dm_X6_putNumbers_3 : mj_dec prog_8_method_8_code 3 = some (.aload_n 1, 1) := by decide +kernel
theorem dm_X6_putNumbers_4 : mj_dec prog_8_method_8_code 4 = some (.invokevirtual 60, 3) := by decide +kernel
theorem dm_X6_putNumbers_7 : mj_dec prog_8_method_8_code 7 = some (.if_icmp .ge 57, 3) := by decide +kernel
theorem dm_X6_putNumbers_10 : mj_dec prog_8_method_8_code 10 = some (.iload_n 2, 1) := by decide +kernel
theorem dm_X6_putNumbers_11 : mj_dec prog_8_method_8_code 11 = some (.ifCond .le 38, 3) := by decide +kernel
theorem dm_X6_putNumbers_14 : mj_dec prog_8_method_8_code 14 = some (.aload_n 1, 1) := by decide +kernel
theorem dm_X6_putNumbers_15 : mj_dec prog_8_method_8_code 15 = some (.getfield 22, 3) := by decide +kernel
theorem dm_X6_putNumbers_18 : mj_dec prog_8_method_8_code 18 = some (.iconst 2, 1) := by decide +kernel
theorem dm_X6_putNumbers_19 : mj_dec prog_8_method_8_code 19 = some (.if_icmp .eq 30, 3) := by decide +kernel
theorem dm_X6_putNumbers_22 : mj_dec prog_8_method_8_code 22 = some (.aload_n 0, 1) := by decide +kernel
theorem dm_X6_putNumbers_23 : mj_dec prog_8_method_8_code 23 = some (.aload_n 1, 1) := by decide +kernel
theorem dm_X6_putNumbers_24 : mj_dec prog_8_method_8_code 24 = some (.getfield 64, 3) := by decide +kernel
theorem dm_X6_putNumbers_27 : mj_dec prog_8_method_8_code 27 = some (.ifCond .le 17, 3) := by decide +kernel
theorem dm_X6_putNumbers_30 : mj_dec prog_8_method_8_code 30 = some (.iload_n 2, 1) := by decide +kernel
theorem dm_X6_putNumbers_31 : mj_dec prog_8_method_8_code 31 = some (.aload_n 1, 1) := by decide +kernel
theorem dm_X6_putNumbers_32 : mj_dec prog_8_method_8_code 32 = some (.getfield 64, 3) := by decide +kernel
theorem dm_X6_putNumbers_35 : mj_dec prog_8_method_8_code 35 = some (.irem, 1) := by decide +kernel
theorem dm_X6_putNumbers_36 : mj_dec prog_8_method_8_code 36 = some (.ifCond .ne 8, 3) := by decide +kernel
theorem dm_X6_putNumbers_39 : mj_dec prog_8_method_8_code 39 = some (.bipush 59, 2) := by decide +kernel
theorem dm_X6_putNumbers_41 : mj_dec prog_8_method_8_code 41 = some (.goto 5, 3) := by decide +kernel
theorem dm_X6_putNumbers_44 : mj_dec prog_8_method_8_code 44 = some (.bipush 32, 2) := by decide +kernel
theorem dm_X6_putNumbers_46 : mj_dec prog_8_method_8_code 46 = some (.invokevirtual 42, 3) := by decide +kernel
theorem dm_X6_putNumbers_49 : mj_dec prog_8_method_8_code 49 = some (.aload_n 0, 1) := by decide +kernel
theorem dm_X6_putNumbers_50 : mj_dec prog_8_method_8_code 50 = some (.aload_n 1, 1) := by decide +kernel
theorem dm_X6_putNumbers_51 : mj_dec prog_8_method_8_code 51 = some (.iload_n 2, 1) := by decide +kernel
theorem dm_X6_putNumbers_52 : mj_dec prog_8_method_8_code 52 = some (.invokevirtual 67, 3) := by decide +kernel
theorem dm_X6_putNumbers_55 : mj_dec prog_8_method_8_code 55 = some (.invokevirtual 31, 3) := by decide +kernel
theorem dm_X6_putNumbers_58 : mj_dec prog_8_method_8_code 58 = some (.iinc 2 1, 3) := by decide +kernel
theorem dm_X6_putNumbers_61 : mj_dec prog_8_method_8_code 61 = some (.goto (-59), 3) := by decide +kernel
theorem dm_X6_putNumbers_64 : mj_dec prog_8_method_8_code 64 = some (.return_, 1) := by decide +kernel
theorem k_putNumbers {xt : mj_X} {d : Nat} {h : mj_H} {o b g n : Nat} {l : List Int} (hd : 4 ≤ d) (h2 : 2 ≤ o ∧ 2 ≤ b ∧ 2 ≤ g) (hne : o ≠ b ∧ o ≠ g ∧ b ≠ g) (hn : n ≤ 1000) (hP : prt h o b g n l) {A : Nat → Prop} {p e : Nat} {v : VV} {f1 : Nat → Value} (hx1 : xt 1 = some (.long, 0, f1)) (hoA : ¬ A o ∧ ¬ A b ∧ ¬ A g) (hv : cv A h (e + 1) p v) (hk2 : 2 ≤ vk v) (hk6 : vk v ≤ 6) : pgN xt d 139 [.ref o, .ref p] h (fun h' => prS o b g h h' ∧ prt h' o b g n ((l ++ nmsL v (vq v)).take n)) := by
  have hvq9 := vq_le hv.1
  obtain ⟨row, fr, vals, hp, hp2, hpA, hvk, hvm, hvc, hvs, hvl⟩ := cv_val hv
  have hpo : p ≠ o ∧ p ≠ b ∧ p ≠ g := ⟨fun z => hoA.1 (z ▸ hpA), fun z => hoA.2.1 (z ▸ hpA), fun z => hoA.2.2 (z ▸ hpA)⟩
  obtain ⟨f0, m0, dg0, ho0, -⟩ := id hP
  refine x_enter pm_X6_putNumbers (L0 := [(0, .ref o), (1, .ref p)]) rfl (Nat.le_of_ble_eq_true rfl) (by omega) ?_
  refine me0 (pc' := 1) (S' := [ii 0]) dm_X6_putNumbers_0 rfl rfl rfl rfl ?_
  refine me1 (pc' := 2) (L' := [(2, ii 0), (0, .ref o), (1, .ref p)]) (S' := []) dm_X6_putNumbers_1 rfl rfl rfl rfl ?_
  have lp2 : ∀ (n2 : Nat) (k : Nat) (hh : mj_H), vq v - k = n2 → (k ≤ vq v) → (prS o b g h hh) → (prt hh o b g n ((l ++ nmsL v k).take n)) → pgE xt (d - 1) 6 3 false (Option.none : Option Jvm.ClassFile.FieldType) (mj_dec prog_8_method_8_code) 2 [(0, .ref o), (1, .ref p), (2, ii (k : Int))] [] hh (fun r h' => r = none ∧ prS o b g h h' ∧ prt h' o b g n ((l ++ nmsL v (vq v)).take n)) := by
    intro n2
    induction n2 using Nat.strongRecOn with
    | ind n2 ih2 =>
      intro k hh hm2 hk hS hPk
      obtain ⟨fh, mh, dh, hoh, -⟩ := id hPk
      refine me1 (pc' := 3) (L' := [(0, .ref o), (1, .ref p), (2, ii (k : Int))]) (S' := [ii (k : Int)]) dm_X6_putNumbers_2 rfl rfl rfl rfl ?_
      refine me1 (pc' := 4) (L' := [(0, .ref o), (1, .ref p), (2, ii (k : Int))]) (S' := [.ref p, ii (k : Int)]) dm_X6_putNumbers_3 rfl rfl rfl rfl ?_
      refine x_cp (pc' := 7) (v := ii (vq v : Int)) (rest := [ii (k : Int)]) dm_X6_putNumbers_4 rfl (g_inv (As := []) (S := [ii (k : Int)]) ((hS.2.2 p hpo.1 hpo.2.1 hpo.2.2).trans hp) rfl rfl rfl (by omega)) rfl rfl rfl (c_numbers (by omega) (cv_pr hoA hS hv)) ?_
      refine y_2ge (a := (k : Int)) (b := (vq v : Int)) (t := 64) (pc' := 10) dm_X6_putNumbers_7 rfl rfl (by omega) (fun hb1 => ?_) (fun hb1 => ?_)
      · refine y_ret (r := none) dm_X6_putNumbers_64 rfl rfl rfl ?_
        have hkq : k = vq v := by omega
        rw [hkq] at hPk
        exact ⟨rfl, hS, hPk⟩
      · refine me1 (pc' := 11) (L' := [(0, .ref o), (1, .ref p), (2, ii (k : Int))]) (S' := [ii (k : Int)]) dm_X6_putNumbers_10 rfl rfl rfl rfl ?_
        refine y_1le (a := (k : Int)) (t := 49) (pc' := 14) dm_X6_putNumbers_11 rfl rfl (by omega) (fun hb2 => ?_) (fun hb2 => ?_)
        · have hsep : sepL v k = [] := by unfold sepL; rw [if_pos (by omega)]
          refine me1 (pc' := 50) (L' := [(0, .ref o), (1, .ref p), (2, ii (k : Int))]) (S' := [.ref o]) dm_X6_putNumbers_49 rfl rfl rfl rfl ?_
          refine me1 (pc' := 51) (L' := [(0, .ref o), (1, .ref p), (2, ii (k : Int))]) (S' := [.ref p, .ref o]) dm_X6_putNumbers_50 rfl rfl rfl rfl ?_
          refine me1 (pc' := 52) (L' := [(0, .ref o), (1, .ref p), (2, ii (k : Int))]) (S' := [ii (k : Int), .ref p, .ref o]) dm_X6_putNumbers_51 rfl rfl rfl rfl ?_
          have hvn : vnum v (k : Int) = vn v k := by rw [vnum_r (by omega) (by omega) (by omega)]; rfl
          refine x_cp (pc' := 55) (v := .long (vn v k)) (rest := [.ref o]) dm_X6_putNumbers_52 rfl (g_inv (As := [ii (k : Int)]) (S := [.ref o]) ((hS.2.2 p hpo.1 hpo.2.1 hpo.2.2).trans hp) rfl rfl rfl (by omega)) rfl rfl rfl ((show pgP xt (d - 1) _ _ _ (.long (vn v k)) from hvn ▸ c_numberAt (i := (k : Int)) hx1 (by omega) (cv_pr hoA hS hv) (by omega))) ?_
          refine x_cn (pc' := 58) (rest := []) dm_X6_putNumbers_55 rfl (g_inv (As := [.long (vn v k)]) (S := []) hoh rfl rfl rfl (by omega)) rfl rfl rfl (k_putNumber (by omega) h2 hne hn hPk) ?_
          rintro hy1 ⟨hSa1, hPa1⟩
          rw [take_tk2] at hPa1
          replace hSa1 := prS_tr hS hSa1
          obtain ⟨fa1, ma1, da1, hoa1, -⟩ := id hPa1
          refine y_iinc (pc' := 61) (L' := [(2, ii ((k : Int) + 1)), (0, .ref o), (1, .ref p)]) dm_X6_putNumbers_58 (y_incp (a := (k : Int)) (c := 1) rfl rfl (by decide)) rfl ?_
          refine me2 (pc' := 2) (S' := []) dm_X6_putNumbers_61 rfl rfl rfl ?_
          exact pg_sub (L := [(0, .ref o), (1, .ref p), (2, ii ((k + 1) : Int))]) rfl rfl rfl (ih2 (vq v - (k + 1)) (by omega) (k + 1) hy1 rfl (by omega) hSa1 (by have z := hPa1; rw [show nmsL v (k + 1) = (nmsL v k) ++ (numL (vn v k)) by show nmsL v k ++ (sepL v k ++ numL (vn v k)) = _; rw [hsep]; first | rw [List.nil_append] | rw [List.append_assoc]]; exact z))
        · refine me1 (pc' := 15) (L' := [(0, .ref o), (1, .ref p), (2, ii (k : Int))]) (S' := [.ref p]) dm_X6_putNumbers_14 rfl rfl rfl rfl ?_
          refine me3 (pc' := 18) (S' := [ii (vk v : Int)]) dm_X6_putNumbers_15 (g_get (v := ii (vk v : Int)) ((hS.2.2 p hpo.1 hpo.2.1 hpo.2.2).trans hp) rfl rfl (by omega)) rfl rfl rfl ?_
          refine me0 (pc' := 19) (S' := [ii 2, ii (vk v : Int)]) dm_X6_putNumbers_18 rfl rfl rfl rfl ?_
          refine y_2eq (a := (vk v : Int)) (b := 2) (t := 49) (pc' := 22) dm_X6_putNumbers_19 rfl rfl (by omega) (fun hb3 => ?_) (fun hb3 => ?_)
          · have hsep : sepL v k = [] := by unfold sepL; rw [if_pos (by omega)]
            refine me1 (pc' := 50) (L' := [(0, .ref o), (1, .ref p), (2, ii (k : Int))]) (S' := [.ref o]) dm_X6_putNumbers_49 rfl rfl rfl rfl ?_
            refine me1 (pc' := 51) (L' := [(0, .ref o), (1, .ref p), (2, ii (k : Int))]) (S' := [.ref p, .ref o]) dm_X6_putNumbers_50 rfl rfl rfl rfl ?_
            refine me1 (pc' := 52) (L' := [(0, .ref o), (1, .ref p), (2, ii (k : Int))]) (S' := [ii (k : Int), .ref p, .ref o]) dm_X6_putNumbers_51 rfl rfl rfl rfl ?_
            have hvn : vnum v (k : Int) = vn v k := by rw [vnum_r (by omega) (by omega) (by omega)]; rfl
            refine x_cp (pc' := 55) (v := .long (vn v k)) (rest := [.ref o]) dm_X6_putNumbers_52 rfl (g_inv (As := [ii (k : Int)]) (S := [.ref o]) ((hS.2.2 p hpo.1 hpo.2.1 hpo.2.2).trans hp) rfl rfl rfl (by omega)) rfl rfl rfl ((show pgP xt (d - 1) _ _ _ (.long (vn v k)) from hvn ▸ c_numberAt (i := (k : Int)) hx1 (by omega) (cv_pr hoA hS hv) (by omega))) ?_
            refine x_cn (pc' := 58) (rest := []) dm_X6_putNumbers_55 rfl (g_inv (As := [.long (vn v k)]) (S := []) hoh rfl rfl rfl (by omega)) rfl rfl rfl (k_putNumber (by omega) h2 hne hn hPk) ?_
            rintro hy2 ⟨hSa2, hPa2⟩
            rw [take_tk2] at hPa2
            replace hSa2 := prS_tr hS hSa2
            obtain ⟨fa2, ma2, da2, hoa2, -⟩ := id hPa2
            refine y_iinc (pc' := 61) (L' := [(2, ii ((k : Int) + 1)), (0, .ref o), (1, .ref p)]) dm_X6_putNumbers_58 (y_incp (a := (k : Int)) (c := 1) rfl rfl (by decide)) rfl ?_
            refine me2 (pc' := 2) (S' := []) dm_X6_putNumbers_61 rfl rfl rfl ?_
            exact pg_sub (L := [(0, .ref o), (1, .ref p), (2, ii ((k + 1) : Int))]) rfl rfl rfl (ih2 (vq v - (k + 1)) (by omega) (k + 1) hy2 rfl (by omega) hSa2 (by have z := hPa2; rw [show nmsL v (k + 1) = (nmsL v k) ++ (numL (vn v k)) by show nmsL v k ++ (sepL v k ++ numL (vn v k)) = _; rw [hsep]; first | rw [List.nil_append] | rw [List.append_assoc]]; exact z))
          · refine me1 (pc' := 23) (L' := [(0, .ref o), (1, .ref p), (2, ii (k : Int))]) (S' := [.ref o]) dm_X6_putNumbers_22 rfl rfl rfl rfl ?_
            refine me1 (pc' := 24) (L' := [(0, .ref o), (1, .ref p), (2, ii (k : Int))]) (S' := [.ref p, .ref o]) dm_X6_putNumbers_23 rfl rfl rfl rfl ?_
            refine me3 (pc' := 27) (S' := [ii (vc v : Int), .ref o]) dm_X6_putNumbers_24 (g_get (v := ii (vc v : Int)) ((hS.2.2 p hpo.1 hpo.2.1 hpo.2.2).trans hp) rfl rfl (by omega)) rfl rfl rfl ?_
            refine y_1le (a := (vc v : Int)) (t := 44) (pc' := 30) dm_X6_putNumbers_27 rfl rfl (by omega) (fun hb4 => ?_) (fun hb4 => ?_)
            · have hsep : sepL v k = [32] := by unfold sepL; rw [if_neg (by omega), if_neg (by omega)]
              refine me0 (pc' := 46) (S' := [ii 32, .ref o]) dm_X6_putNumbers_44 rfl rfl rfl rfl ?_
              refine x_cn (pc' := 49) (rest := []) dm_X6_putNumbers_46 rfl (g_inv (As := [ii 32]) (S := []) hoh rfl rfl rfl (by omega)) rfl rfl rfl (k_add2 (by omega) h2 hne hn hPk (by omega)) ?_
              rintro hy3 ⟨hSa3, hPa3⟩
              rw [take_tk2] at hPa3
              replace hSa3 := prS_tr hS hSa3
              obtain ⟨fa3, ma3, da3, hoa3, -⟩ := id hPa3
              refine me1 (pc' := 50) (L' := [(0, .ref o), (1, .ref p), (2, ii (k : Int))]) (S' := [.ref o]) dm_X6_putNumbers_49 rfl rfl rfl rfl ?_
              refine me1 (pc' := 51) (L' := [(0, .ref o), (1, .ref p), (2, ii (k : Int))]) (S' := [.ref p, .ref o]) dm_X6_putNumbers_50 rfl rfl rfl rfl ?_
              refine me1 (pc' := 52) (L' := [(0, .ref o), (1, .ref p), (2, ii (k : Int))]) (S' := [ii (k : Int), .ref p, .ref o]) dm_X6_putNumbers_51 rfl rfl rfl rfl ?_
              have hvn : vnum v (k : Int) = vn v k := by rw [vnum_r (by omega) (by omega) (by omega)]; rfl
              refine x_cp (pc' := 55) (v := .long (vn v k)) (rest := [.ref o]) dm_X6_putNumbers_52 rfl (g_inv (As := [ii (k : Int)]) (S := [.ref o]) ((hSa3.2.2 p hpo.1 hpo.2.1 hpo.2.2).trans hp) rfl rfl rfl (by omega)) rfl rfl rfl ((show pgP xt (d - 1) _ _ _ (.long (vn v k)) from hvn ▸ c_numberAt (i := (k : Int)) hx1 (by omega) (cv_pr hoA hSa3 hv) (by omega))) ?_
              refine x_cn (pc' := 58) (rest := []) dm_X6_putNumbers_55 rfl (g_inv (As := [.long (vn v k)]) (S := []) hoa3 rfl rfl rfl (by omega)) rfl rfl rfl (k_putNumber (by omega) h2 hne hn hPa3) ?_
              rintro hy4 ⟨hSa4, hPa4⟩
              rw [take_tk2] at hPa4
              replace hSa4 := prS_tr hSa3 hSa4
              obtain ⟨fa4, ma4, da4, hoa4, -⟩ := id hPa4
              refine y_iinc (pc' := 61) (L' := [(2, ii ((k : Int) + 1)), (0, .ref o), (1, .ref p)]) dm_X6_putNumbers_58 (y_incp (a := (k : Int)) (c := 1) rfl rfl (by decide)) rfl ?_
              refine me2 (pc' := 2) (S' := []) dm_X6_putNumbers_61 rfl rfl rfl ?_
              exact pg_sub (L := [(0, .ref o), (1, .ref p), (2, ii ((k + 1) : Int))]) rfl rfl rfl (ih2 (vq v - (k + 1)) (by omega) (k + 1) hy4 rfl (by omega) hSa4 (by have z := hPa4; rw [show nmsL v (k + 1) = ((nmsL v k) ++ ([32])) ++ (numL (vn v k)) by show nmsL v k ++ (sepL v k ++ numL (vn v k)) = _; rw [hsep]; first | rw [List.nil_append] | rw [List.append_assoc]]; exact z))
            · refine me1 (pc' := 31) (L' := [(0, .ref o), (1, .ref p), (2, ii (k : Int))]) (S' := [ii (k : Int), .ref o]) dm_X6_putNumbers_30 rfl rfl rfl rfl ?_
              refine me1 (pc' := 32) (L' := [(0, .ref o), (1, .ref p), (2, ii (k : Int))]) (S' := [.ref p, ii (k : Int), .ref o]) dm_X6_putNumbers_31 rfl rfl rfl rfl ?_
              refine me3 (pc' := 35) (S' := [ii (vc v : Int), ii (k : Int), .ref o]) dm_X6_putNumbers_32 (g_get (v := ii (vc v : Int)) ((hS.2.2 p hpo.1 hpo.2.1 hpo.2.2).trans hp) rfl rfl (by omega)) rfl rfl rfl ?_
              refine y_irem (a := (k : Int)) (b := (vc v : Int)) dm_X6_putNumbers_35 (pc' := 36) rfl (by omega) (by omega) (by omega) (by omega) ?_
              have hmd1 : 0 ≤ (k : Int) % (vc v : Int) := Int.emod_nonneg _ (by omega)
              have hmd2 : (k : Int) % (vc v : Int) < (vc v : Int) := Int.emod_lt_of_pos _ (by omega)
              have hmd3 : ((k % vc v : Nat) : Int) = (k : Int) % (vc v : Int) := by push_cast; rfl
              refine y_1ne (a := (k : Int) % (vc v : Int)) (t := 44) (pc' := 39) dm_X6_putNumbers_36 rfl rfl (by omega) (fun hb5 => ?_) (fun hb5 => ?_)
              · have hsep : sepL v k = [32] := by unfold sepL; rw [if_neg (by omega), if_neg (fun z => by have z1 := z.2; omega)]
                refine me0 (pc' := 46) (S' := [ii 32, .ref o]) dm_X6_putNumbers_44 rfl rfl rfl rfl ?_
                refine x_cn (pc' := 49) (rest := []) dm_X6_putNumbers_46 rfl (g_inv (As := [ii 32]) (S := []) hoh rfl rfl rfl (by omega)) rfl rfl rfl (k_add2 (by omega) h2 hne hn hPk (by omega)) ?_
                rintro hy5 ⟨hSa5, hPa5⟩
                rw [take_tk2] at hPa5
                replace hSa5 := prS_tr hS hSa5
                obtain ⟨fa5, ma5, da5, hoa5, -⟩ := id hPa5
                refine me1 (pc' := 50) (L' := [(0, .ref o), (1, .ref p), (2, ii (k : Int))]) (S' := [.ref o]) dm_X6_putNumbers_49 rfl rfl rfl rfl ?_
                refine me1 (pc' := 51) (L' := [(0, .ref o), (1, .ref p), (2, ii (k : Int))]) (S' := [.ref p, .ref o]) dm_X6_putNumbers_50 rfl rfl rfl rfl ?_
                refine me1 (pc' := 52) (L' := [(0, .ref o), (1, .ref p), (2, ii (k : Int))]) (S' := [ii (k : Int), .ref p, .ref o]) dm_X6_putNumbers_51 rfl rfl rfl rfl ?_
                have hvn : vnum v (k : Int) = vn v k := by rw [vnum_r (by omega) (by omega) (by omega)]; rfl
                refine x_cp (pc' := 55) (v := .long (vn v k)) (rest := [.ref o]) dm_X6_putNumbers_52 rfl (g_inv (As := [ii (k : Int)]) (S := [.ref o]) ((hSa5.2.2 p hpo.1 hpo.2.1 hpo.2.2).trans hp) rfl rfl rfl (by omega)) rfl rfl rfl ((show pgP xt (d - 1) _ _ _ (.long (vn v k)) from hvn ▸ c_numberAt (i := (k : Int)) hx1 (by omega) (cv_pr hoA hSa5 hv) (by omega))) ?_
                refine x_cn (pc' := 58) (rest := []) dm_X6_putNumbers_55 rfl (g_inv (As := [.long (vn v k)]) (S := []) hoa5 rfl rfl rfl (by omega)) rfl rfl rfl (k_putNumber (by omega) h2 hne hn hPa5) ?_
                rintro hy6 ⟨hSa6, hPa6⟩
                rw [take_tk2] at hPa6
                replace hSa6 := prS_tr hSa5 hSa6
                obtain ⟨fa6, ma6, da6, hoa6, -⟩ := id hPa6
                refine y_iinc (pc' := 61) (L' := [(2, ii ((k : Int) + 1)), (0, .ref o), (1, .ref p)]) dm_X6_putNumbers_58 (y_incp (a := (k : Int)) (c := 1) rfl rfl (by decide)) rfl ?_
                refine me2 (pc' := 2) (S' := []) dm_X6_putNumbers_61 rfl rfl rfl ?_
                exact pg_sub (L := [(0, .ref o), (1, .ref p), (2, ii ((k + 1) : Int))]) rfl rfl rfl (ih2 (vq v - (k + 1)) (by omega) (k + 1) hy6 rfl (by omega) hSa6 (by have z := hPa6; rw [show nmsL v (k + 1) = ((nmsL v k) ++ ([32])) ++ (numL (vn v k)) by show nmsL v k ++ (sepL v k ++ numL (vn v k)) = _; rw [hsep]; first | rw [List.nil_append] | rw [List.append_assoc]]; exact z))
              · have hsep : sepL v k = [59] := by unfold sepL; rw [if_neg (by omega), if_pos ⟨by omega, by omega⟩]
                refine me0 (pc' := 41) (S' := [ii 59, .ref o]) dm_X6_putNumbers_39 rfl rfl rfl rfl ?_
                refine me2 (pc' := 46) (S' := [ii 59, .ref o]) dm_X6_putNumbers_41 rfl rfl rfl ?_
                refine x_cn (pc' := 49) (rest := []) dm_X6_putNumbers_46 rfl (g_inv (As := [ii 59]) (S := []) hoh rfl rfl rfl (by omega)) rfl rfl rfl (k_add2 (by omega) h2 hne hn hPk (by omega)) ?_
                rintro hy7 ⟨hSa7, hPa7⟩
                rw [take_tk2] at hPa7
                replace hSa7 := prS_tr hS hSa7
                obtain ⟨fa7, ma7, da7, hoa7, -⟩ := id hPa7
                refine me1 (pc' := 50) (L' := [(0, .ref o), (1, .ref p), (2, ii (k : Int))]) (S' := [.ref o]) dm_X6_putNumbers_49 rfl rfl rfl rfl ?_
                refine me1 (pc' := 51) (L' := [(0, .ref o), (1, .ref p), (2, ii (k : Int))]) (S' := [.ref p, .ref o]) dm_X6_putNumbers_50 rfl rfl rfl rfl ?_
                refine me1 (pc' := 52) (L' := [(0, .ref o), (1, .ref p), (2, ii (k : Int))]) (S' := [ii (k : Int), .ref p, .ref o]) dm_X6_putNumbers_51 rfl rfl rfl rfl ?_
                have hvn : vnum v (k : Int) = vn v k := by rw [vnum_r (by omega) (by omega) (by omega)]; rfl
                refine x_cp (pc' := 55) (v := .long (vn v k)) (rest := [.ref o]) dm_X6_putNumbers_52 rfl (g_inv (As := [ii (k : Int)]) (S := [.ref o]) ((hSa7.2.2 p hpo.1 hpo.2.1 hpo.2.2).trans hp) rfl rfl rfl (by omega)) rfl rfl rfl ((show pgP xt (d - 1) _ _ _ (.long (vn v k)) from hvn ▸ c_numberAt (i := (k : Int)) hx1 (by omega) (cv_pr hoA hSa7 hv) (by omega))) ?_
                refine x_cn (pc' := 58) (rest := []) dm_X6_putNumbers_55 rfl (g_inv (As := [.long (vn v k)]) (S := []) hoa7 rfl rfl rfl (by omega)) rfl rfl rfl (k_putNumber (by omega) h2 hne hn hPa7) ?_
                rintro hy8 ⟨hSa8, hPa8⟩
                rw [take_tk2] at hPa8
                replace hSa8 := prS_tr hSa7 hSa8
                obtain ⟨fa8, ma8, da8, hoa8, -⟩ := id hPa8
                refine y_iinc (pc' := 61) (L' := [(2, ii ((k : Int) + 1)), (0, .ref o), (1, .ref p)]) dm_X6_putNumbers_58 (y_incp (a := (k : Int)) (c := 1) rfl rfl (by decide)) rfl ?_
                refine me2 (pc' := 2) (S' := []) dm_X6_putNumbers_61 rfl rfl rfl ?_
                exact pg_sub (L := [(0, .ref o), (1, .ref p), (2, ii ((k + 1) : Int))]) rfl rfl rfl (ih2 (vq v - (k + 1)) (by omega) (k + 1) hy8 rfl (by omega) hSa8 (by have z := hPa8; rw [show nmsL v (k + 1) = ((nmsL v k) ++ ([59])) ++ (numL (vn v k)) by show nmsL v k ++ (sepL v k ++ numL (vn v k)) = _; rw [hsep]; first | rw [List.nil_append] | rw [List.append_assoc]]; exact z))
  exact pg_sub (L := [(0, .ref o), (1, .ref p), (2, ii (0 : Int))]) rfl rfl rfl (lp2 _ 0 h rfl (Nat.zero_le _) (prS_rf _ _ _ _) (by rw [show l ++ nmsL v 0 = l from List.append_nil l, prt_take hP]; exact hP))
set_option maxRecDepth 20000 in
theorem pm_X6_putSigns : mj_mmof pg_ms 137 = some ((⟨"ArrayCalculator$Printer", "putSigns", "(LArrayCalculator$Value;)V"⟩, prog_8_method_9_code, 5, (Option.none : Option Jvm.ClassFile.FieldType)), 6, false, mj_dec prog_8_method_9_code) := rfl
theorem dm_X6_putSigns_0 : mj_dec prog_8_method_9_code 0 = some (.aload_n 1, 1) := by decide +kernel
theorem dm_X6_putSigns_1 : mj_dec prog_8_method_9_code 1 = some (.getfield 22, 3) := by decide +kernel
theorem dm_X6_putSigns_4 : mj_dec prog_8_method_9_code 4 = some (.iconst 3, 1) := by decide +kernel
theorem dm_X6_putSigns_5 : mj_dec prog_8_method_9_code 5 = some (.if_icmp .ne 17, 3) := by decide +kernel
theorem dm_X6_putSigns_8 : mj_dec prog_8_method_9_code 8 = some (.aload_n 1, 1) := by decide +kernel
theorem dm_X6_putSigns_9 : mj_dec prog_8_method_9_code 9 = some (.getfield 46, 3) := by decide +kernel
theorem dm_X6_putSigns_12 : mj_dec prog_8_method_9_code 12 = some (.iconst 1, 1) := by decide +kernel
theorem dm_X6_putSigns_13 : mj_dec prog_8_method_9_code 13 = some (.if_icmp .ne 9, 3) := by decide +kernel
theorem dm_X6_putSigns_16 : mj_dec prog_8_method_9_code 16 = some (.aload_n 0, 1) := by decide +kernel
theorem dm_X6_putSigns_17 : mj_dec prog_8_method_9_code 17 = some (.bipush 44, 2) := by decide +kernel
theorem dm_X6_putSigns_19 : mj_dec prog_8_method_9_code 19 = some (.invokevirtual 42, 3) := by decide +kernel
theorem dm_X6_putSigns_22 : mj_dec prog_8_method_9_code 22 = some (.aload_n 0, 1) := by decide +kernel
theorem dm_X6_putSigns_23 : mj_dec prog_8_method_9_code 23 = some (.bipush 39, 2) := by decide +kernel
theorem dm_X6_putSigns_25 : mj_dec prog_8_method_9_code 25 = some (.invokevirtual 42, 3) := by decide +kernel
theorem dm_X6_putSigns_28 : mj_dec prog_8_method_9_code 28 = some (.iconst 0, 1) := by decide +kernel
theorem dm_X6_putSigns_29 : mj_dec prog_8_method_9_code 29 = some (.istore_n 2, 1) := by decide +kernel
theorem dm_X6_putSigns_30 : mj_dec prog_8_method_9_code 30 = some (.iload_n 2, 1) := by decide +kernel
theorem dm_X6_putSigns_31 : mj_dec prog_8_method_9_code 31 = some (.aload_n 1, 1) := by decide +kernel
theorem dm_X6_putSigns_32 : mj_dec prog_8_method_9_code 32 = some (.getfield 46, 3) := by decide +kernel
theorem dm_X6_putSigns_35 : mj_dec prog_8_method_9_code 35 = some (.if_icmp .ge 50, 3) := by decide +kernel
theorem dm_X6_putSigns_38 : mj_dec prog_8_method_9_code 38 = some (.aload_n 1, 1) := by decide +kernel
theorem dm_X6_putSigns_39 : mj_dec prog_8_method_9_code 39 = some (.iload_n 2, 1) := by decide +kernel
theorem dm_X6_putSigns_40 : mj_dec prog_8_method_9_code 40 = some (.invokevirtual 67, 3) := by decide +kernel
theorem dm_X6_putSigns_43 : mj_dec prog_8_method_9_code 43 = some (.lstore_n 3, 1) := by decide +kernel
theorem dm_X6_putSigns_44 : mj_dec prog_8_method_9_code 44 = some (.aload_n 0, 1) := by decide +kernel
theorem dm_X6_putSigns_45 : mj_dec prog_8_method_9_code 45 = some (.lload_n 3, 1) := by decide +kernel
theorem dm_X6_putSigns_46 : mj_dec prog_8_method_9_code 46 = some (.ldc2_w 71, 3) := by decide +kernel
theorem dm_X6_putSigns_49 : mj_dec prog_8_method_9_code 49 = some (.lcmp, 1) := by decide +kernel
theorem dm_X6_putSigns_50 : mj_dec prog_8_method_9_code 50 = some (.ifCond .lt 19, 3) := by decide +kernel
theorem dm_X6_putSigns_53 : mj_dec prog_8_method_9_code 53 = some (.lload_n 3, 1) := by decide +kernel
theorem dm_X6_putSigns_54 : mj_dec prog_8_method_9_code 54 = some (.ldc2_w 73, 3) := by decide +kernel
theorem dm_X6_putSigns_57 : mj_dec prog_8_method_9_code 57 = some (.lcmp, 1) := by decide +kernel
theorem dm_X6_putSigns_58 : mj_dec prog_8_method_9_code 58 = some (.ifCond .gt 11, 3) := by decide +kernel
theorem dm_X6_putSigns_61 : mj_dec prog_8_method_9_code 61 = some (.lload_n 3, 1) := by decide +kernel
theorem dm_X6_putSigns_62 : mj_dec prog_8_method_9_code 62 = some (.ldc2_w 75, 3) := by decide +kernel
theorem dm_X6_putSigns_65 : mj_dec prog_8_method_9_code 65 = some (.lcmp, 1) := by decide +kernel
theorem dm_X6_putSigns_66 : mj_dec prog_8_method_9_code 66 = some (.ifCond .ne 8, 3) := by decide +kernel
theorem dm_X6_putSigns_69 : mj_dec prog_8_method_9_code 69 = some (.bipush 46, 2) := by decide +kernel
theorem dm_X6_putSigns_71 : mj_dec prog_8_method_9_code 71 = some (.goto 5, 3) := by decide +kernel
theorem dm_X6_putSigns_74 : mj_dec prog_8_method_9_code 74 = some (.lload_n 3, 1) := by decide +kernel
theorem dm_X6_putSigns_75 : mj_dec prog_8_method_9_code 75 = some (.l2i, 1) := by decide +kernel
theorem dm_X6_putSigns_76 : mj_dec prog_8_method_9_code 76 = some (.invokevirtual 42, 3) := by decide +kernel
theorem dm_X6_putSigns_79 : mj_dec prog_8_method_9_code 79 = some (.iinc 2 1, 3) := by decide +kernel
theorem dm_X6_putSigns_82 : mj_dec prog_8_method_9_code 82 = some (.goto (-52), 3) := by decide +kernel
theorem dm_X6_putSigns_85 : mj_dec prog_8_method_9_code 85 = some (.aload_n 0, 1) := by decide +kernel
theorem dm_X6_putSigns_86 : mj_dec prog_8_method_9_code 86 = some (.bipush 39, 2) := by decide +kernel
theorem dm_X6_putSigns_88 : mj_dec prog_8_method_9_code 88 = some (.invokevirtual 42, 3) := by decide +kernel
theorem dm_X6_putSigns_91 : mj_dec prog_8_method_9_code 91 = some (.return_, 1) := by decide +kernel
theorem k_putSigns {xt : mj_X} {d : Nat} {h : mj_H} {o b g n : Nat} {l : List Int} (hd : 4 ≤ d) (h2 : 2 ≤ o ∧ 2 ≤ b ∧ 2 ≤ g) (hne : o ≠ b ∧ o ≠ g ∧ b ≠ g) (hn : n ≤ 1000) (hP : prt h o b g n l) {A : Nat → Prop} {p e : Nat} {v : VV} {f1 : Nat → Value} (hx1 : xt 1 = some (.long, 0, f1)) (hoA : ¬ A o ∧ ¬ A b ∧ ¬ A g) (hv : cv A h (e + 1) p v) (hsg : vk v = 1 ∨ vk v = 3) : pgN xt d 137 [.ref o, .ref p] h (fun h' => prS o b g h h' ∧ prt h' o b g n ((l ++ sgnL v).take n)) := by
  have hvq9 := vq_le hv.1
  obtain ⟨row, fr, vals, hp, hp2, hpA, hvk, hvm, hvc, hvs, hvl⟩ := cv_val hv
  have hpo : p ≠ o ∧ p ≠ b ∧ p ≠ g := ⟨fun z => hoA.1 (z ▸ hpA), fun z => hoA.2.1 (z ▸ hpA), fun z => hoA.2.2 (z ▸ hpA)⟩
  obtain ⟨f0, m0, dg0, ho0, -⟩ := id hP
  have h32 : (Int64.ofInt 32).toInt = 32 := by decide
  have h126 : (Int64.ofInt 126).toInt = 126 := by decide
  have h39 : (Int64.ofInt 39).toInt = 39 := by decide
  refine x_enter pm_X6_putSigns (L0 := [(0, .ref o), (1, .ref p)]) rfl (Nat.le_of_ble_eq_true rfl) (by omega) ?_
  refine me1 (pc' := 1) (L' := [(0, .ref o), (1, .ref p)]) (S' := [.ref p]) dm_X6_putSigns_0 rfl rfl rfl rfl ?_
  refine me3 (pc' := 4) (S' := [ii (vk v : Int)]) dm_X6_putSigns_1 (g_get (v := ii (vk v : Int)) hp rfl rfl (by omega)) rfl rfl rfl ?_
  refine me0 (pc' := 5) (S' := [ii 3, ii (vk v : Int)]) dm_X6_putSigns_4 rfl rfl rfl rfl ?_
  refine y_2ne (a := (vk v : Int)) (b := 3) (t := 22) (pc' := 8) dm_X6_putSigns_5 rfl rfl (by omega) (fun hb1 => ?_) (fun hb1 => ?_)
  · have hpre : ((if vk v = 3 ∧ vm v = 1 then [44] else []) : List Int) = [] := if_neg (by omega)
    refine me1 (pc' := 23) (L' := [(0, .ref o), (1, .ref p)]) (S' := [.ref o]) dm_X6_putSigns_22 rfl rfl rfl rfl ?_
    refine me0 (pc' := 25) (S' := [ii 39, .ref o]) dm_X6_putSigns_23 rfl rfl rfl rfl ?_
    refine x_cn (pc' := 28) (rest := []) dm_X6_putSigns_25 rfl (g_inv (As := [ii 39]) (S := []) ho0 rfl rfl rfl (by omega)) rfl rfl rfl (k_add2 (by omega) h2 hne hn hP (by omega)) ?_
    rintro hy1 ⟨hSa1, hPa1⟩
    obtain ⟨fa1, ma1, da1, hoa1, -⟩ := id hPa1
    refine me0 (pc' := 29) (S' := [ii 0]) dm_X6_putSigns_28 rfl rfl rfl rfl ?_
    refine me1 (pc' := 30) (L' := [(2, ii 0), (0, .ref o), (1, .ref p)]) (S' := []) dm_X6_putSigns_29 rfl rfl rfl rfl ?_
    have lp30 : ∀ (n30 : Nat) (k : Nat) (hh : mj_H), vm v - k = n30 → (k ≤ vm v) → (prS o b g h hh) → (prt hh o b g n ((l ++ ((((if vk v = 3 ∧ vm v = 1 then [44] else []) : List Int) ++ [39]) ++ sgsL v k)).take n)) → pgE xt (d - 1) 6 5 false (Option.none : Option Jvm.ClassFile.FieldType) (mj_dec prog_8_method_9_code) 30 [(0, .ref o), (1, .ref p), (2, ii (k : Int))] [] hh (fun r h' => r = none ∧ prS o b g h h' ∧ prt h' o b g n ((l ++ sgnL v).take n)) := by
      intro n30
      induction n30 using Nat.strongRecOn with
      | ind n30 ih30 =>
        intro k hh hm30 hk hS hPk
        obtain ⟨fh, mh, dh, hoh, -⟩ := id hPk
        refine me1 (pc' := 31) (L' := [(0, .ref o), (1, .ref p), (2, ii (k : Int))]) (S' := [ii (k : Int)]) dm_X6_putSigns_30 rfl rfl rfl rfl ?_
        refine me1 (pc' := 32) (L' := [(0, .ref o), (1, .ref p), (2, ii (k : Int))]) (S' := [.ref p, ii (k : Int)]) dm_X6_putSigns_31 rfl rfl rfl rfl ?_
        refine me3 (pc' := 35) (S' := [ii (vm v : Int), ii (k : Int)]) dm_X6_putSigns_32 (g_get (v := ii (vm v : Int)) ((hS.2.2 p hpo.1 hpo.2.1 hpo.2.2).trans hp) rfl rfl (by omega)) rfl rfl rfl ?_
        refine y_2ge (a := (k : Int)) (b := (vm v : Int)) (t := 85) (pc' := 38) dm_X6_putSigns_35 rfl rfl (by omega) (fun hb2 => ?_) (fun hb2 => ?_)
        · refine me1 (pc' := 86) (L' := [(0, .ref o), (1, .ref p), (2, ii (k : Int))]) (S' := [.ref o]) dm_X6_putSigns_85 rfl rfl rfl rfl ?_
          refine me0 (pc' := 88) (S' := [ii 39, .ref o]) dm_X6_putSigns_86 rfl rfl rfl rfl ?_
          refine x_cn (pc' := 91) (rest := []) dm_X6_putSigns_88 rfl (g_inv (As := [ii 39]) (S := []) hoh rfl rfl rfl (by omega)) rfl rfl rfl (k_add2 (by omega) h2 hne hn hPk (by omega)) ?_
          rintro hy2 ⟨hSa2, hPa2⟩
          rw [take_tk2] at hPa2
          replace hSa2 := prS_tr hS hSa2
          obtain ⟨fa2, ma2, da2, hoa2, -⟩ := id hPa2
          refine y_ret (r := none) dm_X6_putSigns_91 rfl rfl rfl ?_
          have hkq : k = vm v := by omega
          rw [hkq] at hPa2
          refine ⟨rfl, hSa2, ?_⟩
          rw [show sgnL v = ((((if vk v = 3 ∧ vm v = 1 then [44] else []) : List Int) ++ [39]) ++ sgsL v (vm v)) ++ [39] by unfold sgnL; simp only [List.append_assoc]]
          exact hPa2
        · refine me1 (pc' := 39) (L' := [(0, .ref o), (1, .ref p), (2, ii (k : Int))]) (S' := [.ref p]) dm_X6_putSigns_38 rfl rfl rfl rfl ?_
          refine me1 (pc' := 40) (L' := [(0, .ref o), (1, .ref p), (2, ii (k : Int))]) (S' := [ii (k : Int), .ref p]) dm_X6_putSigns_39 rfl rfl rfl rfl ?_
          have hvn : vnum v (k : Int) = vn v k := vnum_s hv.1 hsg (by omega)
          refine x_cp (pc' := 43) (v := .long (vn v k)) (rest := []) dm_X6_putSigns_40 rfl (g_inv (As := [ii (k : Int)]) (S := []) ((hS.2.2 p hpo.1 hpo.2.1 hpo.2.2).trans hp) rfl rfl rfl (by omega)) rfl rfl rfl ((show pgP xt (d - 1) _ _ _ (.long (vn v k)) from hvn ▸ c_numberAt (i := (k : Int)) hx1 (by omega) (cv_pr hoA hS hv) (by omega))) ?_
          refine me1 (pc' := 44) (L' := [(3, .long (vn v k)), (0, .ref o), (1, .ref p), (2, ii (k : Int))]) (S' := []) dm_X6_putSigns_43 rfl rfl rfl rfl ?_
          refine me1 (pc' := 45) (L' := [(3, .long (vn v k)), (0, .ref o), (1, .ref p), (2, ii (k : Int))]) (S' := [.ref o]) dm_X6_putSigns_44 rfl rfl rfl rfl ?_
          refine me1 (pc' := 46) (L' := [(3, .long (vn v k)), (0, .ref o), (1, .ref p), (2, ii (k : Int))]) (S' := [.long (vn v k), .ref o]) dm_X6_putSigns_45 rfl rfl rfl rfl ?_
          refine me3 (pc' := 49) (S' := [.long (Int64.ofInt 32), .long (vn v k), .ref o]) dm_X6_putSigns_46 rfl rfl rfl rfl ?_
          refine y_llt (x := vn v k) (y := Int64.ofInt 32) (t := 69) (pc1 := 50) (pc' := 53) dm_X6_putSigns_49 rfl dm_X6_putSigns_50 rfl rfl (fun hb3 => ?_) (fun hb3 => ?_)
          · rw [h32] at hb3
            refine me0 (pc' := 71) (S' := [ii 46, .ref o]) dm_X6_putSigns_69 rfl rfl rfl rfl ?_
            refine me2 (pc' := 76) (S' := [ii 46, .ref o]) dm_X6_putSigns_71 rfl rfl rfl ?_
            have hsg1 : sgn (vn v k) = 46 := by unfold sgn; rw [if_pos (by omega)]
            refine x_cn (pc' := 79) (rest := []) dm_X6_putSigns_76 rfl (g_inv (As := [ii 46]) (S := []) hoh rfl rfl rfl (by omega)) rfl rfl rfl (k_add2 (by omega) h2 hne hn hPk (by omega)) ?_
            rintro hy3 ⟨hSa3, hPa3⟩
            rw [take_tk2] at hPa3
            replace hSa3 := prS_tr hS hSa3
            obtain ⟨fa3, ma3, da3, hoa3, -⟩ := id hPa3
            refine y_iinc (pc' := 82) (L' := [(2, ii ((k : Int) + 1)), (3, .long (vn v k)), (0, .ref o), (1, .ref p)]) dm_X6_putSigns_79 (y_incp (a := (k : Int)) (c := 1) rfl rfl (by decide)) rfl ?_
            refine me2 (pc' := 30) (S' := []) dm_X6_putSigns_82 rfl rfl rfl ?_
            exact pg_sub (L := [(0, .ref o), (1, .ref p), (2, ii ((k + 1) : Int))]) rfl rfl rfl (ih30 (vm v - (k + 1)) (by omega) (k + 1) hy3 rfl (by omega) hSa3 (show prt hy3 o b g n ((l ++ ((((if vk v = 3 ∧ vm v = 1 then [44] else []) : List Int) ++ [39]) ++ sgsL v (k + 1))).take n) from (show ((((if vk v = 3 ∧ vm v = 1 then [44] else []) : List Int) ++ [39]) ++ sgsL v k) ++ ([46]) = (((if vk v = 3 ∧ vm v = 1 then [44] else []) : List Int) ++ [39]) ++ sgsL v (k + 1) by show _ = (((if vk v = 3 ∧ vm v = 1 then [44] else []) : List Int) ++ [39]) ++ (sgsL v k ++ [sgn (vn v k)]); rw [hsg1, List.append_assoc]) ▸ hPa3))
          · rw [h32] at hb3
            refine me1 (pc' := 54) (L' := [(3, .long (vn v k)), (0, .ref o), (1, .ref p), (2, ii (k : Int))]) (S' := [.long (vn v k), .ref o]) dm_X6_putSigns_53 rfl rfl rfl rfl ?_
            refine me3 (pc' := 57) (S' := [.long (Int64.ofInt 126), .long (vn v k), .ref o]) dm_X6_putSigns_54 rfl rfl rfl rfl ?_
            refine y_lgt (x := vn v k) (y := Int64.ofInt 126) (t := 69) (pc1 := 58) (pc' := 61) dm_X6_putSigns_57 rfl dm_X6_putSigns_58 rfl rfl (fun hb4 => ?_) (fun hb4 => ?_)
            · rw [h126] at hb4
              refine me0 (pc' := 71) (S' := [ii 46, .ref o]) dm_X6_putSigns_69 rfl rfl rfl rfl ?_
              refine me2 (pc' := 76) (S' := [ii 46, .ref o]) dm_X6_putSigns_71 rfl rfl rfl ?_
              have hsg1 : sgn (vn v k) = 46 := by unfold sgn; rw [if_pos (by omega)]
              refine x_cn (pc' := 79) (rest := []) dm_X6_putSigns_76 rfl (g_inv (As := [ii 46]) (S := []) hoh rfl rfl rfl (by omega)) rfl rfl rfl (k_add2 (by omega) h2 hne hn hPk (by omega)) ?_
              rintro hy4 ⟨hSa4, hPa4⟩
              rw [take_tk2] at hPa4
              replace hSa4 := prS_tr hS hSa4
              obtain ⟨fa4, ma4, da4, hoa4, -⟩ := id hPa4
              refine y_iinc (pc' := 82) (L' := [(2, ii ((k : Int) + 1)), (3, .long (vn v k)), (0, .ref o), (1, .ref p)]) dm_X6_putSigns_79 (y_incp (a := (k : Int)) (c := 1) rfl rfl (by decide)) rfl ?_
              refine me2 (pc' := 30) (S' := []) dm_X6_putSigns_82 rfl rfl rfl ?_
              exact pg_sub (L := [(0, .ref o), (1, .ref p), (2, ii ((k + 1) : Int))]) rfl rfl rfl (ih30 (vm v - (k + 1)) (by omega) (k + 1) hy4 rfl (by omega) hSa4 (show prt hy4 o b g n ((l ++ ((((if vk v = 3 ∧ vm v = 1 then [44] else []) : List Int) ++ [39]) ++ sgsL v (k + 1))).take n) from (show ((((if vk v = 3 ∧ vm v = 1 then [44] else []) : List Int) ++ [39]) ++ sgsL v k) ++ ([46]) = (((if vk v = 3 ∧ vm v = 1 then [44] else []) : List Int) ++ [39]) ++ sgsL v (k + 1) by show _ = (((if vk v = 3 ∧ vm v = 1 then [44] else []) : List Int) ++ [39]) ++ (sgsL v k ++ [sgn (vn v k)]); rw [hsg1, List.append_assoc]) ▸ hPa4))
            · rw [h126] at hb4
              refine me1 (pc' := 62) (L' := [(3, .long (vn v k)), (0, .ref o), (1, .ref p), (2, ii (k : Int))]) (S' := [.long (vn v k), .ref o]) dm_X6_putSigns_61 rfl rfl rfl rfl ?_
              refine me3 (pc' := 65) (S' := [.long (Int64.ofInt 39), .long (vn v k), .ref o]) dm_X6_putSigns_62 rfl rfl rfl rfl ?_
              refine y_lne (x := vn v k) (y := Int64.ofInt 39) (t := 74) (pc1 := 66) (pc' := 69) dm_X6_putSigns_65 rfl dm_X6_putSigns_66 rfl rfl (fun hb5 => ?_) (fun hb5 => ?_)
              · have hbx : (vn v k).toInt ≠ 39 := fun z => hb5 (Int64.toInt_inj.mp (z.trans h39.symm))
                refine me1 (pc' := 75) (L' := [(3, .long (vn v k)), (0, .ref o), (1, .ref p), (2, ii (k : Int))]) (S' := [.long (vn v k), .ref o]) dm_X6_putSigns_74 rfl rfl rfl rfl ?_
                refine y_l2i (a := (vn v k).toInt) dm_X6_putSigns_75 (pc' := 76) rfl (n_l2i _ rfl) ?_
                have hsg1 : sgn (vn v k) = (vn v k).toInt := by unfold sgn; rw [if_neg (by omega)]
                refine x_cn (pc' := 79) (rest := []) dm_X6_putSigns_76 rfl (g_inv (As := [ii ((vn v k).toInt)]) (S := []) hoh rfl rfl rfl (by omega)) rfl rfl rfl (k_add2 (by omega) h2 hne hn hPk (by omega)) ?_
                rintro hy5 ⟨hSa5, hPa5⟩
                rw [take_tk2] at hPa5
                replace hSa5 := prS_tr hS hSa5
                obtain ⟨fa5, ma5, da5, hoa5, -⟩ := id hPa5
                refine y_iinc (pc' := 82) (L' := [(2, ii ((k : Int) + 1)), (3, .long (vn v k)), (0, .ref o), (1, .ref p)]) dm_X6_putSigns_79 (y_incp (a := (k : Int)) (c := 1) rfl rfl (by decide)) rfl ?_
                refine me2 (pc' := 30) (S' := []) dm_X6_putSigns_82 rfl rfl rfl ?_
                exact pg_sub (L := [(0, .ref o), (1, .ref p), (2, ii ((k + 1) : Int))]) rfl rfl rfl (ih30 (vm v - (k + 1)) (by omega) (k + 1) hy5 rfl (by omega) hSa5 (show prt hy5 o b g n ((l ++ ((((if vk v = 3 ∧ vm v = 1 then [44] else []) : List Int) ++ [39]) ++ sgsL v (k + 1))).take n) from (show ((((if vk v = 3 ∧ vm v = 1 then [44] else []) : List Int) ++ [39]) ++ sgsL v k) ++ ([(vn v k).toInt]) = (((if vk v = 3 ∧ vm v = 1 then [44] else []) : List Int) ++ [39]) ++ sgsL v (k + 1) by show _ = (((if vk v = 3 ∧ vm v = 1 then [44] else []) : List Int) ++ [39]) ++ (sgsL v k ++ [sgn (vn v k)]); rw [hsg1, List.append_assoc]) ▸ hPa5))
              · have hbx := congrArg Int64.toInt hb5
                rw [h39] at hbx
                refine me0 (pc' := 71) (S' := [ii 46, .ref o]) dm_X6_putSigns_69 rfl rfl rfl rfl ?_
                refine me2 (pc' := 76) (S' := [ii 46, .ref o]) dm_X6_putSigns_71 rfl rfl rfl ?_
                have hsg1 : sgn (vn v k) = 46 := by unfold sgn; rw [if_pos (by omega)]
                refine x_cn (pc' := 79) (rest := []) dm_X6_putSigns_76 rfl (g_inv (As := [ii 46]) (S := []) hoh rfl rfl rfl (by omega)) rfl rfl rfl (k_add2 (by omega) h2 hne hn hPk (by omega)) ?_
                rintro hy6 ⟨hSa6, hPa6⟩
                rw [take_tk2] at hPa6
                replace hSa6 := prS_tr hS hSa6
                obtain ⟨fa6, ma6, da6, hoa6, -⟩ := id hPa6
                refine y_iinc (pc' := 82) (L' := [(2, ii ((k : Int) + 1)), (3, .long (vn v k)), (0, .ref o), (1, .ref p)]) dm_X6_putSigns_79 (y_incp (a := (k : Int)) (c := 1) rfl rfl (by decide)) rfl ?_
                refine me2 (pc' := 30) (S' := []) dm_X6_putSigns_82 rfl rfl rfl ?_
                exact pg_sub (L := [(0, .ref o), (1, .ref p), (2, ii ((k + 1) : Int))]) rfl rfl rfl (ih30 (vm v - (k + 1)) (by omega) (k + 1) hy6 rfl (by omega) hSa6 (show prt hy6 o b g n ((l ++ ((((if vk v = 3 ∧ vm v = 1 then [44] else []) : List Int) ++ [39]) ++ sgsL v (k + 1))).take n) from (show ((((if vk v = 3 ∧ vm v = 1 then [44] else []) : List Int) ++ [39]) ++ sgsL v k) ++ ([46]) = (((if vk v = 3 ∧ vm v = 1 then [44] else []) : List Int) ++ [39]) ++ sgsL v (k + 1) by show _ = (((if vk v = 3 ∧ vm v = 1 then [44] else []) : List Int) ++ [39]) ++ (sgsL v k ++ [sgn (vn v k)]); rw [hsg1, List.append_assoc]) ▸ hPa6))
    exact pg_sub (L := [(0, .ref o), (1, .ref p), (2, ii (0 : Int))]) rfl rfl rfl (lp30 _ 0 hy1 rfl (Nat.zero_le _) hSa1 (show prt hy1 o b g n ((l ++ ((((if vk v = 3 ∧ vm v = 1 then [44] else []) : List Int) ++ [39]) ++ sgsL v 0)).take n) from (show [39] = (((if vk v = 3 ∧ vm v = 1 then [44] else []) : List Int) ++ [39]) ++ sgsL v 0 by rw [hpre]; rfl) ▸ hPa1))
  · refine me1 (pc' := 9) (L' := [(0, .ref o), (1, .ref p)]) (S' := [.ref p]) dm_X6_putSigns_8 rfl rfl rfl rfl ?_
    refine me3 (pc' := 12) (S' := [ii (vm v : Int)]) dm_X6_putSigns_9 (g_get (v := ii (vm v : Int)) hp rfl rfl (by omega)) rfl rfl rfl ?_
    refine me0 (pc' := 13) (S' := [ii 1, ii (vm v : Int)]) dm_X6_putSigns_12 rfl rfl rfl rfl ?_
    refine y_2ne (a := (vm v : Int)) (b := 1) (t := 22) (pc' := 16) dm_X6_putSigns_13 rfl rfl (by omega) (fun hb6 => ?_) (fun hb6 => ?_)
    · have hpre : ((if vk v = 3 ∧ vm v = 1 then [44] else []) : List Int) = [] := if_neg (by omega)
      refine me1 (pc' := 23) (L' := [(0, .ref o), (1, .ref p)]) (S' := [.ref o]) dm_X6_putSigns_22 rfl rfl rfl rfl ?_
      refine me0 (pc' := 25) (S' := [ii 39, .ref o]) dm_X6_putSigns_23 rfl rfl rfl rfl ?_
      refine x_cn (pc' := 28) (rest := []) dm_X6_putSigns_25 rfl (g_inv (As := [ii 39]) (S := []) ho0 rfl rfl rfl (by omega)) rfl rfl rfl (k_add2 (by omega) h2 hne hn hP (by omega)) ?_
      rintro hy7 ⟨hSa7, hPa7⟩
      obtain ⟨fa7, ma7, da7, hoa7, -⟩ := id hPa7
      refine me0 (pc' := 29) (S' := [ii 0]) dm_X6_putSigns_28 rfl rfl rfl rfl ?_
      refine me1 (pc' := 30) (L' := [(2, ii 0), (0, .ref o), (1, .ref p)]) (S' := []) dm_X6_putSigns_29 rfl rfl rfl rfl ?_
      have lp30 : ∀ (n30 : Nat) (k : Nat) (hh : mj_H), vm v - k = n30 → (k ≤ vm v) → (prS o b g h hh) → (prt hh o b g n ((l ++ ((((if vk v = 3 ∧ vm v = 1 then [44] else []) : List Int) ++ [39]) ++ sgsL v k)).take n)) → pgE xt (d - 1) 6 5 false (Option.none : Option Jvm.ClassFile.FieldType) (mj_dec prog_8_method_9_code) 30 [(0, .ref o), (1, .ref p), (2, ii (k : Int))] [] hh (fun r h' => r = none ∧ prS o b g h h' ∧ prt h' o b g n ((l ++ sgnL v).take n)) := by
        intro n30
        induction n30 using Nat.strongRecOn with
        | ind n30 ih30 =>
          intro k hh hm30 hk hS hPk
          obtain ⟨fh, mh, dh, hoh, -⟩ := id hPk
          refine me1 (pc' := 31) (L' := [(0, .ref o), (1, .ref p), (2, ii (k : Int))]) (S' := [ii (k : Int)]) dm_X6_putSigns_30 rfl rfl rfl rfl ?_
          refine me1 (pc' := 32) (L' := [(0, .ref o), (1, .ref p), (2, ii (k : Int))]) (S' := [.ref p, ii (k : Int)]) dm_X6_putSigns_31 rfl rfl rfl rfl ?_
          refine me3 (pc' := 35) (S' := [ii (vm v : Int), ii (k : Int)]) dm_X6_putSigns_32 (g_get (v := ii (vm v : Int)) ((hS.2.2 p hpo.1 hpo.2.1 hpo.2.2).trans hp) rfl rfl (by omega)) rfl rfl rfl ?_
          refine y_2ge (a := (k : Int)) (b := (vm v : Int)) (t := 85) (pc' := 38) dm_X6_putSigns_35 rfl rfl (by omega) (fun hb7 => ?_) (fun hb7 => ?_)
          · refine me1 (pc' := 86) (L' := [(0, .ref o), (1, .ref p), (2, ii (k : Int))]) (S' := [.ref o]) dm_X6_putSigns_85 rfl rfl rfl rfl ?_
            refine me0 (pc' := 88) (S' := [ii 39, .ref o]) dm_X6_putSigns_86 rfl rfl rfl rfl ?_
            refine x_cn (pc' := 91) (rest := []) dm_X6_putSigns_88 rfl (g_inv (As := [ii 39]) (S := []) hoh rfl rfl rfl (by omega)) rfl rfl rfl (k_add2 (by omega) h2 hne hn hPk (by omega)) ?_
            rintro hy8 ⟨hSa8, hPa8⟩
            rw [take_tk2] at hPa8
            replace hSa8 := prS_tr hS hSa8
            obtain ⟨fa8, ma8, da8, hoa8, -⟩ := id hPa8
            refine y_ret (r := none) dm_X6_putSigns_91 rfl rfl rfl ?_
            have hkq : k = vm v := by omega
            rw [hkq] at hPa8
            refine ⟨rfl, hSa8, ?_⟩
            rw [show sgnL v = ((((if vk v = 3 ∧ vm v = 1 then [44] else []) : List Int) ++ [39]) ++ sgsL v (vm v)) ++ [39] by unfold sgnL; simp only [List.append_assoc]]
            exact hPa8
          · refine me1 (pc' := 39) (L' := [(0, .ref o), (1, .ref p), (2, ii (k : Int))]) (S' := [.ref p]) dm_X6_putSigns_38 rfl rfl rfl rfl ?_
            refine me1 (pc' := 40) (L' := [(0, .ref o), (1, .ref p), (2, ii (k : Int))]) (S' := [ii (k : Int), .ref p]) dm_X6_putSigns_39 rfl rfl rfl rfl ?_
            have hvn : vnum v (k : Int) = vn v k := vnum_s hv.1 hsg (by omega)
            refine x_cp (pc' := 43) (v := .long (vn v k)) (rest := []) dm_X6_putSigns_40 rfl (g_inv (As := [ii (k : Int)]) (S := []) ((hS.2.2 p hpo.1 hpo.2.1 hpo.2.2).trans hp) rfl rfl rfl (by omega)) rfl rfl rfl ((show pgP xt (d - 1) _ _ _ (.long (vn v k)) from hvn ▸ c_numberAt (i := (k : Int)) hx1 (by omega) (cv_pr hoA hS hv) (by omega))) ?_
            refine me1 (pc' := 44) (L' := [(3, .long (vn v k)), (0, .ref o), (1, .ref p), (2, ii (k : Int))]) (S' := []) dm_X6_putSigns_43 rfl rfl rfl rfl ?_
            refine me1 (pc' := 45) (L' := [(3, .long (vn v k)), (0, .ref o), (1, .ref p), (2, ii (k : Int))]) (S' := [.ref o]) dm_X6_putSigns_44 rfl rfl rfl rfl ?_
            refine me1 (pc' := 46) (L' := [(3, .long (vn v k)), (0, .ref o), (1, .ref p), (2, ii (k : Int))]) (S' := [.long (vn v k), .ref o]) dm_X6_putSigns_45 rfl rfl rfl rfl ?_
            refine me3 (pc' := 49) (S' := [.long (Int64.ofInt 32), .long (vn v k), .ref o]) dm_X6_putSigns_46 rfl rfl rfl rfl ?_
            refine y_llt (x := vn v k) (y := Int64.ofInt 32) (t := 69) (pc1 := 50) (pc' := 53) dm_X6_putSigns_49 rfl dm_X6_putSigns_50 rfl rfl (fun hb8 => ?_) (fun hb8 => ?_)
            · rw [h32] at hb8
              refine me0 (pc' := 71) (S' := [ii 46, .ref o]) dm_X6_putSigns_69 rfl rfl rfl rfl ?_
              refine me2 (pc' := 76) (S' := [ii 46, .ref o]) dm_X6_putSigns_71 rfl rfl rfl ?_
              have hsg1 : sgn (vn v k) = 46 := by unfold sgn; rw [if_pos (by omega)]
              refine x_cn (pc' := 79) (rest := []) dm_X6_putSigns_76 rfl (g_inv (As := [ii 46]) (S := []) hoh rfl rfl rfl (by omega)) rfl rfl rfl (k_add2 (by omega) h2 hne hn hPk (by omega)) ?_
              rintro hy9 ⟨hSa9, hPa9⟩
              rw [take_tk2] at hPa9
              replace hSa9 := prS_tr hS hSa9
              obtain ⟨fa9, ma9, da9, hoa9, -⟩ := id hPa9
              refine y_iinc (pc' := 82) (L' := [(2, ii ((k : Int) + 1)), (3, .long (vn v k)), (0, .ref o), (1, .ref p)]) dm_X6_putSigns_79 (y_incp (a := (k : Int)) (c := 1) rfl rfl (by decide)) rfl ?_
              refine me2 (pc' := 30) (S' := []) dm_X6_putSigns_82 rfl rfl rfl ?_
              exact pg_sub (L := [(0, .ref o), (1, .ref p), (2, ii ((k + 1) : Int))]) rfl rfl rfl (ih30 (vm v - (k + 1)) (by omega) (k + 1) hy9 rfl (by omega) hSa9 (show prt hy9 o b g n ((l ++ ((((if vk v = 3 ∧ vm v = 1 then [44] else []) : List Int) ++ [39]) ++ sgsL v (k + 1))).take n) from (show ((((if vk v = 3 ∧ vm v = 1 then [44] else []) : List Int) ++ [39]) ++ sgsL v k) ++ ([46]) = (((if vk v = 3 ∧ vm v = 1 then [44] else []) : List Int) ++ [39]) ++ sgsL v (k + 1) by show _ = (((if vk v = 3 ∧ vm v = 1 then [44] else []) : List Int) ++ [39]) ++ (sgsL v k ++ [sgn (vn v k)]); rw [hsg1, List.append_assoc]) ▸ hPa9))
            · rw [h32] at hb8
              refine me1 (pc' := 54) (L' := [(3, .long (vn v k)), (0, .ref o), (1, .ref p), (2, ii (k : Int))]) (S' := [.long (vn v k), .ref o]) dm_X6_putSigns_53 rfl rfl rfl rfl ?_
              refine me3 (pc' := 57) (S' := [.long (Int64.ofInt 126), .long (vn v k), .ref o]) dm_X6_putSigns_54 rfl rfl rfl rfl ?_
              refine y_lgt (x := vn v k) (y := Int64.ofInt 126) (t := 69) (pc1 := 58) (pc' := 61) dm_X6_putSigns_57 rfl dm_X6_putSigns_58 rfl rfl (fun hb9 => ?_) (fun hb9 => ?_)
              · rw [h126] at hb9
                refine me0 (pc' := 71) (S' := [ii 46, .ref o]) dm_X6_putSigns_69 rfl rfl rfl rfl ?_
                refine me2 (pc' := 76) (S' := [ii 46, .ref o]) dm_X6_putSigns_71 rfl rfl rfl ?_
                have hsg1 : sgn (vn v k) = 46 := by unfold sgn; rw [if_pos (by omega)]
                refine x_cn (pc' := 79) (rest := []) dm_X6_putSigns_76 rfl (g_inv (As := [ii 46]) (S := []) hoh rfl rfl rfl (by omega)) rfl rfl rfl (k_add2 (by omega) h2 hne hn hPk (by omega)) ?_
                rintro hy10 ⟨hSa10, hPa10⟩
                rw [take_tk2] at hPa10
                replace hSa10 := prS_tr hS hSa10
                obtain ⟨fa10, ma10, da10, hoa10, -⟩ := id hPa10
                refine y_iinc (pc' := 82) (L' := [(2, ii ((k : Int) + 1)), (3, .long (vn v k)), (0, .ref o), (1, .ref p)]) dm_X6_putSigns_79 (y_incp (a := (k : Int)) (c := 1) rfl rfl (by decide)) rfl ?_
                refine me2 (pc' := 30) (S' := []) dm_X6_putSigns_82 rfl rfl rfl ?_
                exact pg_sub (L := [(0, .ref o), (1, .ref p), (2, ii ((k + 1) : Int))]) rfl rfl rfl (ih30 (vm v - (k + 1)) (by omega) (k + 1) hy10 rfl (by omega) hSa10 (show prt hy10 o b g n ((l ++ ((((if vk v = 3 ∧ vm v = 1 then [44] else []) : List Int) ++ [39]) ++ sgsL v (k + 1))).take n) from (show ((((if vk v = 3 ∧ vm v = 1 then [44] else []) : List Int) ++ [39]) ++ sgsL v k) ++ ([46]) = (((if vk v = 3 ∧ vm v = 1 then [44] else []) : List Int) ++ [39]) ++ sgsL v (k + 1) by show _ = (((if vk v = 3 ∧ vm v = 1 then [44] else []) : List Int) ++ [39]) ++ (sgsL v k ++ [sgn (vn v k)]); rw [hsg1, List.append_assoc]) ▸ hPa10))
              · rw [h126] at hb9
                refine me1 (pc' := 62) (L' := [(3, .long (vn v k)), (0, .ref o), (1, .ref p), (2, ii (k : Int))]) (S' := [.long (vn v k), .ref o]) dm_X6_putSigns_61 rfl rfl rfl rfl ?_
                refine me3 (pc' := 65) (S' := [.long (Int64.ofInt 39), .long (vn v k), .ref o]) dm_X6_putSigns_62 rfl rfl rfl rfl ?_
                refine y_lne (x := vn v k) (y := Int64.ofInt 39) (t := 74) (pc1 := 66) (pc' := 69) dm_X6_putSigns_65 rfl dm_X6_putSigns_66 rfl rfl (fun hb10 => ?_) (fun hb10 => ?_)
                · have hbx : (vn v k).toInt ≠ 39 := fun z => hb10 (Int64.toInt_inj.mp (z.trans h39.symm))
                  refine me1 (pc' := 75) (L' := [(3, .long (vn v k)), (0, .ref o), (1, .ref p), (2, ii (k : Int))]) (S' := [.long (vn v k), .ref o]) dm_X6_putSigns_74 rfl rfl rfl rfl ?_
                  refine y_l2i (a := (vn v k).toInt) dm_X6_putSigns_75 (pc' := 76) rfl (n_l2i _ rfl) ?_
                  have hsg1 : sgn (vn v k) = (vn v k).toInt := by unfold sgn; rw [if_neg (by omega)]
                  refine x_cn (pc' := 79) (rest := []) dm_X6_putSigns_76 rfl (g_inv (As := [ii ((vn v k).toInt)]) (S := []) hoh rfl rfl rfl (by omega)) rfl rfl rfl (k_add2 (by omega) h2 hne hn hPk (by omega)) ?_
                  rintro hy11 ⟨hSa11, hPa11⟩
                  rw [take_tk2] at hPa11
                  replace hSa11 := prS_tr hS hSa11
                  obtain ⟨fa11, ma11, da11, hoa11, -⟩ := id hPa11
                  refine y_iinc (pc' := 82) (L' := [(2, ii ((k : Int) + 1)), (3, .long (vn v k)), (0, .ref o), (1, .ref p)]) dm_X6_putSigns_79 (y_incp (a := (k : Int)) (c := 1) rfl rfl (by decide)) rfl ?_
                  refine me2 (pc' := 30) (S' := []) dm_X6_putSigns_82 rfl rfl rfl ?_
                  exact pg_sub (L := [(0, .ref o), (1, .ref p), (2, ii ((k + 1) : Int))]) rfl rfl rfl (ih30 (vm v - (k + 1)) (by omega) (k + 1) hy11 rfl (by omega) hSa11 (show prt hy11 o b g n ((l ++ ((((if vk v = 3 ∧ vm v = 1 then [44] else []) : List Int) ++ [39]) ++ sgsL v (k + 1))).take n) from (show ((((if vk v = 3 ∧ vm v = 1 then [44] else []) : List Int) ++ [39]) ++ sgsL v k) ++ ([(vn v k).toInt]) = (((if vk v = 3 ∧ vm v = 1 then [44] else []) : List Int) ++ [39]) ++ sgsL v (k + 1) by show _ = (((if vk v = 3 ∧ vm v = 1 then [44] else []) : List Int) ++ [39]) ++ (sgsL v k ++ [sgn (vn v k)]); rw [hsg1, List.append_assoc]) ▸ hPa11))
                · have hbx := congrArg Int64.toInt hb10
                  rw [h39] at hbx
                  refine me0 (pc' := 71) (S' := [ii 46, .ref o]) dm_X6_putSigns_69 rfl rfl rfl rfl ?_
                  refine me2 (pc' := 76) (S' := [ii 46, .ref o]) dm_X6_putSigns_71 rfl rfl rfl ?_
                  have hsg1 : sgn (vn v k) = 46 := by unfold sgn; rw [if_pos (by omega)]
                  refine x_cn (pc' := 79) (rest := []) dm_X6_putSigns_76 rfl (g_inv (As := [ii 46]) (S := []) hoh rfl rfl rfl (by omega)) rfl rfl rfl (k_add2 (by omega) h2 hne hn hPk (by omega)) ?_
                  rintro hy12 ⟨hSa12, hPa12⟩
                  rw [take_tk2] at hPa12
                  replace hSa12 := prS_tr hS hSa12
                  obtain ⟨fa12, ma12, da12, hoa12, -⟩ := id hPa12
                  refine y_iinc (pc' := 82) (L' := [(2, ii ((k : Int) + 1)), (3, .long (vn v k)), (0, .ref o), (1, .ref p)]) dm_X6_putSigns_79 (y_incp (a := (k : Int)) (c := 1) rfl rfl (by decide)) rfl ?_
                  refine me2 (pc' := 30) (S' := []) dm_X6_putSigns_82 rfl rfl rfl ?_
                  exact pg_sub (L := [(0, .ref o), (1, .ref p), (2, ii ((k + 1) : Int))]) rfl rfl rfl (ih30 (vm v - (k + 1)) (by omega) (k + 1) hy12 rfl (by omega) hSa12 (show prt hy12 o b g n ((l ++ ((((if vk v = 3 ∧ vm v = 1 then [44] else []) : List Int) ++ [39]) ++ sgsL v (k + 1))).take n) from (show ((((if vk v = 3 ∧ vm v = 1 then [44] else []) : List Int) ++ [39]) ++ sgsL v k) ++ ([46]) = (((if vk v = 3 ∧ vm v = 1 then [44] else []) : List Int) ++ [39]) ++ sgsL v (k + 1) by show _ = (((if vk v = 3 ∧ vm v = 1 then [44] else []) : List Int) ++ [39]) ++ (sgsL v k ++ [sgn (vn v k)]); rw [hsg1, List.append_assoc]) ▸ hPa12))
      exact pg_sub (L := [(0, .ref o), (1, .ref p), (2, ii (0 : Int))]) rfl rfl rfl (lp30 _ 0 hy7 rfl (Nat.zero_le _) hSa7 (show prt hy7 o b g n ((l ++ ((((if vk v = 3 ∧ vm v = 1 then [44] else []) : List Int) ++ [39]) ++ sgsL v 0)).take n) from (show [39] = (((if vk v = 3 ∧ vm v = 1 then [44] else []) : List Int) ++ [39]) ++ sgsL v 0 by rw [hpre]; rfl) ▸ hPa7))
    · have hpre : ((if vk v = 3 ∧ vm v = 1 then [44] else []) : List Int) = [44] := if_pos (by omega)
      refine me1 (pc' := 17) (L' := [(0, .ref o), (1, .ref p)]) (S' := [.ref o]) dm_X6_putSigns_16 rfl rfl rfl rfl ?_
      refine me0 (pc' := 19) (S' := [ii 44, .ref o]) dm_X6_putSigns_17 rfl rfl rfl rfl ?_
      refine x_cn (pc' := 22) (rest := []) dm_X6_putSigns_19 rfl (g_inv (As := [ii 44]) (S := []) ho0 rfl rfl rfl (by omega)) rfl rfl rfl (k_add2 (by omega) h2 hne hn hP (by omega)) ?_
      rintro hy13 ⟨hSa13, hPa13⟩
      obtain ⟨fa13, ma13, da13, hoa13, -⟩ := id hPa13
      refine me1 (pc' := 23) (L' := [(0, .ref o), (1, .ref p)]) (S' := [.ref o]) dm_X6_putSigns_22 rfl rfl rfl rfl ?_
      refine me0 (pc' := 25) (S' := [ii 39, .ref o]) dm_X6_putSigns_23 rfl rfl rfl rfl ?_
      refine x_cn (pc' := 28) (rest := []) dm_X6_putSigns_25 rfl (g_inv (As := [ii 39]) (S := []) hoa13 rfl rfl rfl (by omega)) rfl rfl rfl (k_add2 (by omega) h2 hne hn hPa13 (by omega)) ?_
      rintro hy14 ⟨hSa14, hPa14⟩
      rw [take_tk2] at hPa14
      replace hSa14 := prS_tr hSa13 hSa14
      obtain ⟨fa14, ma14, da14, hoa14, -⟩ := id hPa14
      refine me0 (pc' := 29) (S' := [ii 0]) dm_X6_putSigns_28 rfl rfl rfl rfl ?_
      refine me1 (pc' := 30) (L' := [(2, ii 0), (0, .ref o), (1, .ref p)]) (S' := []) dm_X6_putSigns_29 rfl rfl rfl rfl ?_
      have lp30 : ∀ (n30 : Nat) (k : Nat) (hh : mj_H), vm v - k = n30 → (k ≤ vm v) → (prS o b g h hh) → (prt hh o b g n ((l ++ ((((if vk v = 3 ∧ vm v = 1 then [44] else []) : List Int) ++ [39]) ++ sgsL v k)).take n)) → pgE xt (d - 1) 6 5 false (Option.none : Option Jvm.ClassFile.FieldType) (mj_dec prog_8_method_9_code) 30 [(0, .ref o), (1, .ref p), (2, ii (k : Int))] [] hh (fun r h' => r = none ∧ prS o b g h h' ∧ prt h' o b g n ((l ++ sgnL v).take n)) := by
        intro n30
        induction n30 using Nat.strongRecOn with
        | ind n30 ih30 =>
          intro k hh hm30 hk hS hPk
          obtain ⟨fh, mh, dh, hoh, -⟩ := id hPk
          refine me1 (pc' := 31) (L' := [(0, .ref o), (1, .ref p), (2, ii (k : Int))]) (S' := [ii (k : Int)]) dm_X6_putSigns_30 rfl rfl rfl rfl ?_
          refine me1 (pc' := 32) (L' := [(0, .ref o), (1, .ref p), (2, ii (k : Int))]) (S' := [.ref p, ii (k : Int)]) dm_X6_putSigns_31 rfl rfl rfl rfl ?_
          refine me3 (pc' := 35) (S' := [ii (vm v : Int), ii (k : Int)]) dm_X6_putSigns_32 (g_get (v := ii (vm v : Int)) ((hS.2.2 p hpo.1 hpo.2.1 hpo.2.2).trans hp) rfl rfl (by omega)) rfl rfl rfl ?_
          refine y_2ge (a := (k : Int)) (b := (vm v : Int)) (t := 85) (pc' := 38) dm_X6_putSigns_35 rfl rfl (by omega) (fun hb11 => ?_) (fun hb11 => ?_)
          · refine me1 (pc' := 86) (L' := [(0, .ref o), (1, .ref p), (2, ii (k : Int))]) (S' := [.ref o]) dm_X6_putSigns_85 rfl rfl rfl rfl ?_
            refine me0 (pc' := 88) (S' := [ii 39, .ref o]) dm_X6_putSigns_86 rfl rfl rfl rfl ?_
            refine x_cn (pc' := 91) (rest := []) dm_X6_putSigns_88 rfl (g_inv (As := [ii 39]) (S := []) hoh rfl rfl rfl (by omega)) rfl rfl rfl (k_add2 (by omega) h2 hne hn hPk (by omega)) ?_
            rintro hy15 ⟨hSa15, hPa15⟩
            rw [take_tk2] at hPa15
            replace hSa15 := prS_tr hS hSa15
            obtain ⟨fa15, ma15, da15, hoa15, -⟩ := id hPa15
            refine y_ret (r := none) dm_X6_putSigns_91 rfl rfl rfl ?_
            have hkq : k = vm v := by omega
            rw [hkq] at hPa15
            refine ⟨rfl, hSa15, ?_⟩
            rw [show sgnL v = ((((if vk v = 3 ∧ vm v = 1 then [44] else []) : List Int) ++ [39]) ++ sgsL v (vm v)) ++ [39] by unfold sgnL; simp only [List.append_assoc]]
            exact hPa15
          · refine me1 (pc' := 39) (L' := [(0, .ref o), (1, .ref p), (2, ii (k : Int))]) (S' := [.ref p]) dm_X6_putSigns_38 rfl rfl rfl rfl ?_
            refine me1 (pc' := 40) (L' := [(0, .ref o), (1, .ref p), (2, ii (k : Int))]) (S' := [ii (k : Int), .ref p]) dm_X6_putSigns_39 rfl rfl rfl rfl ?_
            have hvn : vnum v (k : Int) = vn v k := vnum_s hv.1 hsg (by omega)
            refine x_cp (pc' := 43) (v := .long (vn v k)) (rest := []) dm_X6_putSigns_40 rfl (g_inv (As := [ii (k : Int)]) (S := []) ((hS.2.2 p hpo.1 hpo.2.1 hpo.2.2).trans hp) rfl rfl rfl (by omega)) rfl rfl rfl ((show pgP xt (d - 1) _ _ _ (.long (vn v k)) from hvn ▸ c_numberAt (i := (k : Int)) hx1 (by omega) (cv_pr hoA hS hv) (by omega))) ?_
            refine me1 (pc' := 44) (L' := [(3, .long (vn v k)), (0, .ref o), (1, .ref p), (2, ii (k : Int))]) (S' := []) dm_X6_putSigns_43 rfl rfl rfl rfl ?_
            refine me1 (pc' := 45) (L' := [(3, .long (vn v k)), (0, .ref o), (1, .ref p), (2, ii (k : Int))]) (S' := [.ref o]) dm_X6_putSigns_44 rfl rfl rfl rfl ?_
            refine me1 (pc' := 46) (L' := [(3, .long (vn v k)), (0, .ref o), (1, .ref p), (2, ii (k : Int))]) (S' := [.long (vn v k), .ref o]) dm_X6_putSigns_45 rfl rfl rfl rfl ?_
            refine me3 (pc' := 49) (S' := [.long (Int64.ofInt 32), .long (vn v k), .ref o]) dm_X6_putSigns_46 rfl rfl rfl rfl ?_
            refine y_llt (x := vn v k) (y := Int64.ofInt 32) (t := 69) (pc1 := 50) (pc' := 53) dm_X6_putSigns_49 rfl dm_X6_putSigns_50 rfl rfl (fun hb12 => ?_) (fun hb12 => ?_)
            · rw [h32] at hb12
              refine me0 (pc' := 71) (S' := [ii 46, .ref o]) dm_X6_putSigns_69 rfl rfl rfl rfl ?_
              refine me2 (pc' := 76) (S' := [ii 46, .ref o]) dm_X6_putSigns_71 rfl rfl rfl ?_
              have hsg1 : sgn (vn v k) = 46 := by unfold sgn; rw [if_pos (by omega)]
              refine x_cn (pc' := 79) (rest := []) dm_X6_putSigns_76 rfl (g_inv (As := [ii 46]) (S := []) hoh rfl rfl rfl (by omega)) rfl rfl rfl (k_add2 (by omega) h2 hne hn hPk (by omega)) ?_
              rintro hy16 ⟨hSa16, hPa16⟩
              rw [take_tk2] at hPa16
              replace hSa16 := prS_tr hS hSa16
              obtain ⟨fa16, ma16, da16, hoa16, -⟩ := id hPa16
              refine y_iinc (pc' := 82) (L' := [(2, ii ((k : Int) + 1)), (3, .long (vn v k)), (0, .ref o), (1, .ref p)]) dm_X6_putSigns_79 (y_incp (a := (k : Int)) (c := 1) rfl rfl (by decide)) rfl ?_
              refine me2 (pc' := 30) (S' := []) dm_X6_putSigns_82 rfl rfl rfl ?_
              exact pg_sub (L := [(0, .ref o), (1, .ref p), (2, ii ((k + 1) : Int))]) rfl rfl rfl (ih30 (vm v - (k + 1)) (by omega) (k + 1) hy16 rfl (by omega) hSa16 (show prt hy16 o b g n ((l ++ ((((if vk v = 3 ∧ vm v = 1 then [44] else []) : List Int) ++ [39]) ++ sgsL v (k + 1))).take n) from (show ((((if vk v = 3 ∧ vm v = 1 then [44] else []) : List Int) ++ [39]) ++ sgsL v k) ++ ([46]) = (((if vk v = 3 ∧ vm v = 1 then [44] else []) : List Int) ++ [39]) ++ sgsL v (k + 1) by show _ = (((if vk v = 3 ∧ vm v = 1 then [44] else []) : List Int) ++ [39]) ++ (sgsL v k ++ [sgn (vn v k)]); rw [hsg1, List.append_assoc]) ▸ hPa16))
            · rw [h32] at hb12
              refine me1 (pc' := 54) (L' := [(3, .long (vn v k)), (0, .ref o), (1, .ref p), (2, ii (k : Int))]) (S' := [.long (vn v k), .ref o]) dm_X6_putSigns_53 rfl rfl rfl rfl ?_
              refine me3 (pc' := 57) (S' := [.long (Int64.ofInt 126), .long (vn v k), .ref o]) dm_X6_putSigns_54 rfl rfl rfl rfl ?_
              refine y_lgt (x := vn v k) (y := Int64.ofInt 126) (t := 69) (pc1 := 58) (pc' := 61) dm_X6_putSigns_57 rfl dm_X6_putSigns_58 rfl rfl (fun hb13 => ?_) (fun hb13 => ?_)
              · rw [h126] at hb13
                refine me0 (pc' := 71) (S' := [ii 46, .ref o]) dm_X6_putSigns_69 rfl rfl rfl rfl ?_
                refine me2 (pc' := 76) (S' := [ii 46, .ref o]) dm_X6_putSigns_71 rfl rfl rfl ?_
                have hsg1 : sgn (vn v k) = 46 := by unfold sgn; rw [if_pos (by omega)]
                refine x_cn (pc' := 79) (rest := []) dm_X6_putSigns_76 rfl (g_inv (As := [ii 46]) (S := []) hoh rfl rfl rfl (by omega)) rfl rfl rfl (k_add2 (by omega) h2 hne hn hPk (by omega)) ?_
                rintro hy17 ⟨hSa17, hPa17⟩
                rw [take_tk2] at hPa17
                replace hSa17 := prS_tr hS hSa17
                obtain ⟨fa17, ma17, da17, hoa17, -⟩ := id hPa17
                refine y_iinc (pc' := 82) (L' := [(2, ii ((k : Int) + 1)), (3, .long (vn v k)), (0, .ref o), (1, .ref p)]) dm_X6_putSigns_79 (y_incp (a := (k : Int)) (c := 1) rfl rfl (by decide)) rfl ?_
                refine me2 (pc' := 30) (S' := []) dm_X6_putSigns_82 rfl rfl rfl ?_
                exact pg_sub (L := [(0, .ref o), (1, .ref p), (2, ii ((k + 1) : Int))]) rfl rfl rfl (ih30 (vm v - (k + 1)) (by omega) (k + 1) hy17 rfl (by omega) hSa17 (show prt hy17 o b g n ((l ++ ((((if vk v = 3 ∧ vm v = 1 then [44] else []) : List Int) ++ [39]) ++ sgsL v (k + 1))).take n) from (show ((((if vk v = 3 ∧ vm v = 1 then [44] else []) : List Int) ++ [39]) ++ sgsL v k) ++ ([46]) = (((if vk v = 3 ∧ vm v = 1 then [44] else []) : List Int) ++ [39]) ++ sgsL v (k + 1) by show _ = (((if vk v = 3 ∧ vm v = 1 then [44] else []) : List Int) ++ [39]) ++ (sgsL v k ++ [sgn (vn v k)]); rw [hsg1, List.append_assoc]) ▸ hPa17))
              · rw [h126] at hb13
                refine me1 (pc' := 62) (L' := [(3, .long (vn v k)), (0, .ref o), (1, .ref p), (2, ii (k : Int))]) (S' := [.long (vn v k), .ref o]) dm_X6_putSigns_61 rfl rfl rfl rfl ?_
                refine me3 (pc' := 65) (S' := [.long (Int64.ofInt 39), .long (vn v k), .ref o]) dm_X6_putSigns_62 rfl rfl rfl rfl ?_
                refine y_lne (x := vn v k) (y := Int64.ofInt 39) (t := 74) (pc1 := 66) (pc' := 69) dm_X6_putSigns_65 rfl dm_X6_putSigns_66 rfl rfl (fun hb14 => ?_) (fun hb14 => ?_)
                · have hbx : (vn v k).toInt ≠ 39 := fun z => hb14 (Int64.toInt_inj.mp (z.trans h39.symm))
                  refine me1 (pc' := 75) (L' := [(3, .long (vn v k)), (0, .ref o), (1, .ref p), (2, ii (k : Int))]) (S' := [.long (vn v k), .ref o]) dm_X6_putSigns_74 rfl rfl rfl rfl ?_
                  refine y_l2i (a := (vn v k).toInt) dm_X6_putSigns_75 (pc' := 76) rfl (n_l2i _ rfl) ?_
                  have hsg1 : sgn (vn v k) = (vn v k).toInt := by unfold sgn; rw [if_neg (by omega)]
                  refine x_cn (pc' := 79) (rest := []) dm_X6_putSigns_76 rfl (g_inv (As := [ii ((vn v k).toInt)]) (S := []) hoh rfl rfl rfl (by omega)) rfl rfl rfl (k_add2 (by omega) h2 hne hn hPk (by omega)) ?_
                  rintro hy18 ⟨hSa18, hPa18⟩
                  rw [take_tk2] at hPa18
                  replace hSa18 := prS_tr hS hSa18
                  obtain ⟨fa18, ma18, da18, hoa18, -⟩ := id hPa18
                  refine y_iinc (pc' := 82) (L' := [(2, ii ((k : Int) + 1)), (3, .long (vn v k)), (0, .ref o), (1, .ref p)]) dm_X6_putSigns_79 (y_incp (a := (k : Int)) (c := 1) rfl rfl (by decide)) rfl ?_
                  refine me2 (pc' := 30) (S' := []) dm_X6_putSigns_82 rfl rfl rfl ?_
                  exact pg_sub (L := [(0, .ref o), (1, .ref p), (2, ii ((k + 1) : Int))]) rfl rfl rfl (ih30 (vm v - (k + 1)) (by omega) (k + 1) hy18 rfl (by omega) hSa18 (show prt hy18 o b g n ((l ++ ((((if vk v = 3 ∧ vm v = 1 then [44] else []) : List Int) ++ [39]) ++ sgsL v (k + 1))).take n) from (show ((((if vk v = 3 ∧ vm v = 1 then [44] else []) : List Int) ++ [39]) ++ sgsL v k) ++ ([(vn v k).toInt]) = (((if vk v = 3 ∧ vm v = 1 then [44] else []) : List Int) ++ [39]) ++ sgsL v (k + 1) by show _ = (((if vk v = 3 ∧ vm v = 1 then [44] else []) : List Int) ++ [39]) ++ (sgsL v k ++ [sgn (vn v k)]); rw [hsg1, List.append_assoc]) ▸ hPa18))
                · have hbx := congrArg Int64.toInt hb14
                  rw [h39] at hbx
                  refine me0 (pc' := 71) (S' := [ii 46, .ref o]) dm_X6_putSigns_69 rfl rfl rfl rfl ?_
                  refine me2 (pc' := 76) (S' := [ii 46, .ref o]) dm_X6_putSigns_71 rfl rfl rfl ?_
                  have hsg1 : sgn (vn v k) = 46 := by unfold sgn; rw [if_pos (by omega)]
                  refine x_cn (pc' := 79) (rest := []) dm_X6_putSigns_76 rfl (g_inv (As := [ii 46]) (S := []) hoh rfl rfl rfl (by omega)) rfl rfl rfl (k_add2 (by omega) h2 hne hn hPk (by omega)) ?_
                  rintro hy19 ⟨hSa19, hPa19⟩
                  rw [take_tk2] at hPa19
                  replace hSa19 := prS_tr hS hSa19
                  obtain ⟨fa19, ma19, da19, hoa19, -⟩ := id hPa19
                  refine y_iinc (pc' := 82) (L' := [(2, ii ((k : Int) + 1)), (3, .long (vn v k)), (0, .ref o), (1, .ref p)]) dm_X6_putSigns_79 (y_incp (a := (k : Int)) (c := 1) rfl rfl (by decide)) rfl ?_
                  refine me2 (pc' := 30) (S' := []) dm_X6_putSigns_82 rfl rfl rfl ?_
                  exact pg_sub (L := [(0, .ref o), (1, .ref p), (2, ii ((k + 1) : Int))]) rfl rfl rfl (ih30 (vm v - (k + 1)) (by omega) (k + 1) hy19 rfl (by omega) hSa19 (show prt hy19 o b g n ((l ++ ((((if vk v = 3 ∧ vm v = 1 then [44] else []) : List Int) ++ [39]) ++ sgsL v (k + 1))).take n) from (show ((((if vk v = 3 ∧ vm v = 1 then [44] else []) : List Int) ++ [39]) ++ sgsL v k) ++ ([46]) = (((if vk v = 3 ∧ vm v = 1 then [44] else []) : List Int) ++ [39]) ++ sgsL v (k + 1) by show _ = (((if vk v = 3 ∧ vm v = 1 then [44] else []) : List Int) ++ [39]) ++ (sgsL v k ++ [sgn (vn v k)]); rw [hsg1, List.append_assoc]) ▸ hPa19))
      exact pg_sub (L := [(0, .ref o), (1, .ref p), (2, ii (0 : Int))]) rfl rfl rfl (lp30 _ 0 hy14 rfl (Nat.zero_le _) hSa14 (show prt hy14 o b g n ((l ++ ((((if vk v = 3 ∧ vm v = 1 then [44] else []) : List Int) ++ [39]) ++ sgsL v 0)).take n) from (show ([44]) ++ ([39]) = (((if vk v = 3 ∧ vm v = 1 then [44] else []) : List Int) ++ [39]) ++ sgsL v 0 by rw [hpre]; rfl) ▸ hPa14))
set_option maxRecDepth 20000 in
theorem pm_X6_put : mj_mmof pg_ms 135 = some ((⟨"ArrayCalculator$Printer", "put", "(LArrayCalculator$Value;)V"⟩, prog_8_method_5_code, 3, (Option.none : Option Jvm.ClassFile.FieldType)), 6, false, mj_dec prog_8_method_5_code) := rfl
theorem dm_X6_put_0 : mj_dec prog_8_method_5_code 0 = some (.aload_n 1, 1) := by decide +kernel
theorem dm_X6_put_1 : mj_dec prog_8_method_5_code 1 = some (.getfield 22, 3) := by decide +kernel
theorem dm_X6_put_4 : mj_dec prog_8_method_5_code 4 = some (.tableswitch 198 0 7 #[48, 59, 67, 59, 81, 81, 128, 148], 48) := by decide +kernel
theorem dm_X6_put_52 : mj_dec prog_8_method_5_code 52 = some (.aload_n 0, 1) := by decide +kernel
theorem dm_X6_put_53 : mj_dec prog_8_method_5_code 53 = some (.aload_n 1, 1) := by decide +kernel
theorem dm_X6_put_54 : mj_dec prog_8_method_5_code 54 = some (.getfield 27, 3) := by decide +kernel
theorem dm_X6_put_57 : mj_dec prog_8_method_5_code 57 = some (.invokevirtual 31, 3) := by decide +kernel
theorem dm_X6_put_60 : mj_dec prog_8_method_5_code 60 = some (.goto 142, 3) := by decide +kernel
theorem dm_X6_put_63 : mj_dec prog_8_method_5_code 63 = some (.aload_n 0, 1) := by decide +kernel
theorem dm_X6_put_64 : mj_dec prog_8_method_5_code 64 = some (.aload_n 1, 1) := by decide +kernel
theorem dm_X6_put_65 : mj_dec prog_8_method_5_code 65 = some (.invokevirtual 35, 3) := by decide +kernel
theorem dm_X6_put_68 : mj_dec prog_8_method_5_code 68 = some (.goto 134, 3) := by decide +kernel
theorem dm_X6_put_71 : mj_dec prog_8_method_5_code 71 = some (.aload_n 0, 1) := by decide +kernel
theorem dm_X6_put_72 : mj_dec prog_8_method_5_code 72 = some (.aload_n 1, 1) := by decide +kernel
theorem dm_X6_put_73 : mj_dec prog_8_method_5_code 73 = some (.invokevirtual 39, 3) := by decide +kernel
theorem dm_X6_put_76 : mj_dec prog_8_method_5_code 76 = some (.aload_n 0, 1) := by decide +kernel
theorem dm_X6_put_77 : mj_dec prog_8_method_5_code 77 = some (.bipush 98, 2) := by decide +kernel
theorem dm_X6_put_79 : mj_dec prog_8_method_5_code 79 = some (.invokevirtual 42, 3) := by decide +kernel
theorem dm_X6_put_82 : mj_dec prog_8_method_5_code 82 = some (.goto 120, 3) := by decide +kernel
theorem dm_X6_put_85 : mj_dec prog_8_method_5_code 85 = some (.aload_n 1, 1) := by decide +kernel
theorem dm_X6_put_86 : mj_dec prog_8_method_5_code 86 = some (.getfield 46, 3) := by decide +kernel
theorem dm_X6_put_89 : mj_dec prog_8_method_5_code 89 = some (.iconst 2, 1) := by decide +kernel
theorem dm_X6_put_90 : mj_dec prog_8_method_5_code 90 = some (.if_icmp .ge 21, 3) := by decide +kernel
theorem dm_X6_put_93 : mj_dec prog_8_method_5_code 93 = some (.aload_n 0, 1) := by decide +kernel
theorem dm_X6_put_94 : mj_dec prog_8_method_5_code 94 = some (.aload_n 1, 1) := by decide +kernel
theorem dm_X6_put_95 : mj_dec prog_8_method_5_code 95 = some (.getfield 46, 3) := by decide +kernel
theorem dm_X6_put_98 : mj_dec prog_8_method_5_code 98 = some (.ifCond .ne 8, 3) := by decide +kernel
theorem dm_X6_put_101 : mj_dec prog_8_method_5_code 101 = some (.bipush 33, 2) := by decide +kernel
theorem dm_X6_put_103 : mj_dec prog_8_method_5_code 103 = some (.goto 5, 3) := by decide +kernel
theorem dm_X6_put_106 : mj_dec prog_8_method_5_code 106 = some (.bipush 44, 2) := by decide +kernel
theorem dm_X6_put_108 : mj_dec prog_8_method_5_code 108 = some (.invokevirtual 42, 3) := by decide +kernel
theorem dm_X6_put_111 : mj_dec prog_8_method_5_code 111 = some (.aload_n 1, 1) := by decide +kernel
theorem dm_X6_put_112 : mj_dec prog_8_method_5_code 112 = some (.getfield 46, 3) := by decide +kernel
theorem dm_X6_put_115 : mj_dec prog_8_method_5_code 115 = some (.ifCond .ne 9, 3) := by decide +kernel
theorem dm_X6_put_118 : mj_dec prog_8_method_5_code 118 = some (.aload_n 0, 1) := by decide +kernel
theorem dm_X6_put_119 : mj_dec prog_8_method_5_code 119 = some (.bipush 48, 2) := by decide +kernel
theorem dm_X6_put_121 : mj_dec prog_8_method_5_code 121 = some (.invokevirtual 42, 3) := by decide +kernel
theorem dm_X6_put_124 : mj_dec prog_8_method_5_code 124 = some (.aload_n 0, 1) := by decide +kernel
theorem dm_X6_put_125 : mj_dec prog_8_method_5_code 125 = some (.aload_n 1, 1) := by decide +kernel
theorem dm_X6_put_126 : mj_dec prog_8_method_5_code 126 = some (.invokevirtual 39, 3) := by decide +kernel
theorem dm_X6_put_129 : mj_dec prog_8_method_5_code 129 = some (.goto 73, 3) := by decide +kernel
theorem dm_X6_put_132 : mj_dec prog_8_method_5_code 132 = some (.aload_n 0, 1) := by decide +kernel
theorem dm_X6_put_133 : mj_dec prog_8_method_5_code 133 = some (.bipush 91, 2) := by decide +kernel
theorem dm_X6_put_135 : mj_dec prog_8_method_5_code 135 = some (.invokevirtual 42, 3) := by decide +kernel
theorem dm_X6_put_138 : mj_dec prog_8_method_5_code 138 = some (.aload_n 0, 1) := by decide +kernel
theorem dm_X6_put_139 : mj_dec prog_8_method_5_code 139 = some (.aload_n 1, 1) := by decide +kernel
theorem dm_X6_put_140 : mj_dec prog_8_method_5_code 140 = some (.invokevirtual 39, 3) := by decide +kernel
theorem dm_X6_put_143 : mj_dec prog_8_method_5_code 143 = some (.aload_n 0, 1) := by decide +kernel
theorem dm_X6_put_144 : mj_dec prog_8_method_5_code 144 = some (.bipush 93, 2) := by decide +kernel
theorem dm_X6_put_146 : mj_dec prog_8_method_5_code 146 = some (.invokevirtual 42, 3) := by decide +kernel
theorem dm_X6_put_149 : mj_dec prog_8_method_5_code 149 = some (.goto 53, 3) := by decide +kernel
theorem dm_X6_put_152 : mj_dec prog_8_method_5_code 152 = some (.aload_n 0, 1) := by decide +kernel
theorem dm_X6_put_153 : mj_dec prog_8_method_5_code 153 = some (.bipush 40, 2) := by decide +kernel
theorem dm_X6_put_155 : mj_dec prog_8_method_5_code 155 = some (.invokevirtual 42, 3) := by decide +kernel
theorem dm_X6_put_158 : mj_dec prog_8_method_5_code 158 = some (.iconst 0, 1) := by decide +kernel
theorem dm_X6_put_159 : mj_dec prog_8_method_5_code 159 = some (.istore_n 2, 1) := by decide +kernel
theorem dm_X6_put_160 : mj_dec prog_8_method_5_code 160 = some (.iload_n 2, 1) := by decide +kernel
theorem dm_X6_put_161 : mj_dec prog_8_method_5_code 161 = some (.aload_n 1, 1) := by decide +kernel
theorem dm_X6_put_162 : mj_dec prog_8_method_5_code 162 = some (.getfield 46, 3) := by decide +kernel
theorem dm_X6_put_165 : mj_dec prog_8_method_5_code 165 = some (.if_icmp .ge 28, 3) := by decide +kernel
theorem dm_X6_put_168 : mj_dec prog_8_method_5_code 168 = some (.iload_n 2, 1) := by decide +kernel
theorem dm_X6_put_169 : mj_dec prog_8_method_5_code 169 = some (.ifCond .le 9, 3) := by decide +kernel
theorem dm_X6_put_172 : mj_dec prog_8_method_5_code 172 = some (.aload_n 0, 1) := by decide +kernel
theorem dm_X6_put_173 : mj_dec prog_8_method_5_code 173 = some (.bipush 59, 2) := by decide +kernel
theorem dm_X6_put_175 : mj_dec prog_8_method_5_code 175 = some (.invokevirtual 42, 3) := by decide +kernel
theorem dm_X6_put_178 : mj_dec prog_8_method_5_code 178 = some (.aload_n 0, 1) := by decide +kernel
theorem dm_X6_put_179 : mj_dec prog_8_method_5_code 179 = some (.aload_n 1, 1) := by decide +kernel
theorem dm_X6_put_180 : mj_dec prog_8_method_5_code 180 = some (.iload_n 2, 1) := by decide +kernel
theorem dm_X6_put_181 : mj_dec prog_8_method_5_code 181 = some (.invokevirtual 49, 3) := by decide +kernel
theorem dm_X6_put_184 : mj_dec prog_8_method_5_code 184 = some (.invokevirtual 53, 3) := by decide +kernel
theorem dm_X6_put_187 : mj_dec prog_8_method_5_code 187 = some (.iinc 2 1, 3) := by decide +kernel
theorem dm_X6_put_190 : mj_dec prog_8_method_5_code 190 = some (.goto (-30), 3) := by decide +kernel
theorem dm_X6_put_193 : mj_dec prog_8_method_5_code 193 = some (.aload_n 0, 1) := by decide +kernel
theorem dm_X6_put_194 : mj_dec prog_8_method_5_code 194 = some (.bipush 41, 2) := by decide +kernel
theorem dm_X6_put_196 : mj_dec prog_8_method_5_code 196 = some (.invokevirtual 42, 3) := by decide +kernel
theorem dm_X6_put_199 : mj_dec prog_8_method_5_code 199 = some (.goto 3, 3) := by decide +kernel
theorem dm_X6_put_202 : mj_dec prog_8_method_5_code 202 = some (.return_, 1) := by decide +kernel
theorem k_put {xt : mj_X} {A : Nat → Prop} {o b g n : Nat} : ∀ (e : Nat) {d p : Nat} {h : mj_H} {v : VV} {l : List Int} {f1 : Nat → Value}, 4 * e + 8 ≤ d → 2 ≤ o ∧ 2 ≤ b ∧ 2 ≤ g → o ≠ b ∧ o ≠ g ∧ b ≠ g → n ≤ 1000 → prt h o b g n l → xt 1 = some (.long, 0, f1) → ¬ A o ∧ ¬ A b ∧ ¬ A g → cv A h e p v → pgN xt d 135 [.ref o, .ref p] h (fun h' => prS o b g h h' ∧ prt h' o b g n ((l ++ vaL e v).take n)) := by
  intro e
  induction e with
  | zero => intro d p h v l f1 _ _ _ _ _ _ _ hv; exact hv.elim
  | succ e ih =>
    intro d p h v l f1 hd h2 hne hn hP hx1 hoA hv
    have hvq9 := vq_le hv.1
    obtain ⟨row, fr, vals, hp, hp2, hpA, hvk, hvm, hvc, hvs, hvl⟩ := cv_val hv
    have hpo : p ≠ o ∧ p ≠ b ∧ p ≠ g := ⟨fun z => hoA.1 (z ▸ hpA), fun z => hoA.2.1 (z ▸ hpA), fun z => hoA.2.2 (z ▸ hpA)⟩
    obtain ⟨f0, m0, dg0, ho0, -⟩ := id hP
    have hcn : vk v = 0 → vn v 0 = cnum v := fun z => by unfold cnum; rw [if_pos (by omega)]
    have hq6 : vk v = 6 → vm v * vc v = vq v := fun z => by unfold vq; rw [if_pos z]
    have hq2 : vk v ≤ 5 → vm v = vq v := fun z => by unfold vq; rw [if_neg (by omega), if_neg (by omega)]
    refine x_enter pm_X6_put (L0 := [(0, .ref o), (1, .ref p)]) rfl (Nat.le_of_ble_eq_true rfl) (by omega) ?_
    refine me1 (pc' := 1) (L' := [(0, .ref o), (1, .ref p)]) (S' := [.ref p]) dm_X6_put_0 rfl rfl rfl rfl ?_
    refine me3 (pc' := 4) (S' := [ii (vk v : Int)]) dm_X6_put_1 (g_get (v := ii (vk v : Int)) hp rfl rfl (by omega)) rfl rfl rfl ?_
    refine y_sw (a := (vk v : Int)) (0) (t := 52) (i := .tableswitch 198 0 7 #[48, 59, 67, 59, 81, 81, 128, 148]) (len := 48) dm_X6_put_4 rfl rfl rfl (by omega) (by decide) (fun hb1 => ?_) (fun hb1 => ?_)
    · refine me1 (pc' := 53) (L' := [(0, .ref o), (1, .ref p)]) (S' := [.ref o]) dm_X6_put_52 rfl rfl rfl rfl ?_
      refine me1 (pc' := 54) (L' := [(0, .ref o), (1, .ref p)]) (S' := [.ref p, .ref o]) dm_X6_put_53 rfl rfl rfl rfl ?_
      refine me3 (pc' := 57) (S' := [.long (cnum v), .ref o]) dm_X6_put_54 (g_get (v := .long (cnum v)) hp rfl rfl (by omega)) rfl rfl rfl ?_
      refine x_cn (pc' := 60) (rest := []) dm_X6_put_57 rfl (g_inv (As := [.long (cnum v)]) (S := []) ho0 rfl rfl rfl (by omega)) rfl rfl rfl (k_putNumber (by omega) h2 hne hn hP) ?_
      rintro hy1 ⟨hSa1, hPa1⟩
      obtain ⟨fa1, ma1, da1, hoa1, -⟩ := id hPa1
      refine me2 (pc' := 202) (S' := []) dm_X6_put_60 rfl rfl rfl ?_
      refine y_ret (r := none) dm_X6_put_202 rfl rfl rfl ?_
      refine ⟨rfl, hSa1, ?_⟩
      rw [show vaL (e + 1) v = numL (cnum v) by first | (exfalso; omega) | (rw [vaL_s]; first | rw [if_pos (by omega), hcn (by omega)] | rw [if_neg (by omega), if_pos (by omega)] | rw [if_neg (by omega), if_neg (by omega), if_pos (by omega), hq2 (by omega)] | (rw [if_neg (by omega), if_neg (by omega), if_neg (by omega), if_pos (by omega), hq6 (by omega)]; simp only [List.append_assoc]) | (rw [if_neg (by omega), if_neg (by omega), if_neg (by omega), if_neg (by omega), if_pos (by omega)]; simp only [List.append_assoc]) | (rw [if_neg (by omega), if_neg (by omega), if_neg (by omega), if_neg (by omega), if_neg (by omega), hq2 (by omega)]; first | (rw [if_pos (by omega)]; rfl) | (rw [if_neg (by omega), if_pos (by omega)]) | (rw [if_neg (by omega), if_neg (by omega)]; rfl)))]
      exact hPa1
    refine y_sw (a := (vk v : Int)) (1) (t := 63) (i := .tableswitch 198 0 7 #[48, 59, 67, 59, 81, 81, 128, 148]) (len := 48) dm_X6_put_4 rfl rfl rfl (by omega) (by decide) (fun hb2 => ?_) (fun hb2 => ?_)
    · refine me1 (pc' := 64) (L' := [(0, .ref o), (1, .ref p)]) (S' := [.ref o]) dm_X6_put_63 rfl rfl rfl rfl ?_
      refine me1 (pc' := 65) (L' := [(0, .ref o), (1, .ref p)]) (S' := [.ref p, .ref o]) dm_X6_put_64 rfl rfl rfl rfl ?_
      refine x_cn (pc' := 68) (rest := []) dm_X6_put_65 rfl (g_inv (As := [.ref p]) (S := []) ho0 rfl rfl rfl (by omega)) rfl rfl rfl (k_putSigns (by omega) h2 hne hn hP hx1 hoA hv (by omega)) ?_
      rintro hy2 ⟨hSa2, hPa2⟩
      obtain ⟨fa2, ma2, da2, hoa2, -⟩ := id hPa2
      refine me2 (pc' := 202) (S' := []) dm_X6_put_68 rfl rfl rfl ?_
      refine y_ret (r := none) dm_X6_put_202 rfl rfl rfl ?_
      refine ⟨rfl, hSa2, ?_⟩
      rw [show vaL (e + 1) v = sgnL v by first | (exfalso; omega) | (rw [vaL_s]; first | rw [if_pos (by omega), hcn (by omega)] | rw [if_neg (by omega), if_pos (by omega)] | rw [if_neg (by omega), if_neg (by omega), if_pos (by omega), hq2 (by omega)] | (rw [if_neg (by omega), if_neg (by omega), if_neg (by omega), if_pos (by omega), hq6 (by omega)]; simp only [List.append_assoc]) | (rw [if_neg (by omega), if_neg (by omega), if_neg (by omega), if_neg (by omega), if_pos (by omega)]; simp only [List.append_assoc]) | (rw [if_neg (by omega), if_neg (by omega), if_neg (by omega), if_neg (by omega), if_neg (by omega), hq2 (by omega)]; first | (rw [if_pos (by omega)]; rfl) | (rw [if_neg (by omega), if_pos (by omega)]) | (rw [if_neg (by omega), if_neg (by omega)]; rfl)))]
      exact hPa2
    refine y_sw (a := (vk v : Int)) (2) (t := 71) (i := .tableswitch 198 0 7 #[48, 59, 67, 59, 81, 81, 128, 148]) (len := 48) dm_X6_put_4 rfl rfl rfl (by omega) (by decide) (fun hb3 => ?_) (fun hb3 => ?_)
    · refine me1 (pc' := 72) (L' := [(0, .ref o), (1, .ref p)]) (S' := [.ref o]) dm_X6_put_71 rfl rfl rfl rfl ?_
      refine me1 (pc' := 73) (L' := [(0, .ref o), (1, .ref p)]) (S' := [.ref p, .ref o]) dm_X6_put_72 rfl rfl rfl rfl ?_
      refine x_cn (pc' := 76) (rest := []) dm_X6_put_73 rfl (g_inv (As := [.ref p]) (S := []) ho0 rfl rfl rfl (by omega)) rfl rfl rfl (k_putNumbers (by omega) h2 hne hn hP hx1 hoA hv (by omega) (by omega)) ?_
      rintro hy3 ⟨hSa3, hPa3⟩
      obtain ⟨fa3, ma3, da3, hoa3, -⟩ := id hPa3
      refine me1 (pc' := 77) (L' := [(0, .ref o), (1, .ref p)]) (S' := [.ref o]) dm_X6_put_76 rfl rfl rfl rfl ?_
      refine me0 (pc' := 79) (S' := [ii 98, .ref o]) dm_X6_put_77 rfl rfl rfl rfl ?_
      refine x_cn (pc' := 82) (rest := []) dm_X6_put_79 rfl (g_inv (As := [ii 98]) (S := []) hoa3 rfl rfl rfl (by omega)) rfl rfl rfl (k_add2 (by omega) h2 hne hn hPa3 (by omega)) ?_
      rintro hy4 ⟨hSa4, hPa4⟩
      rw [take_tk2] at hPa4
      replace hSa4 := prS_tr hSa3 hSa4
      obtain ⟨fa4, ma4, da4, hoa4, -⟩ := id hPa4
      refine me2 (pc' := 202) (S' := []) dm_X6_put_82 rfl rfl rfl ?_
      refine y_ret (r := none) dm_X6_put_202 rfl rfl rfl ?_
      refine ⟨rfl, hSa4, ?_⟩
      rw [show vaL (e + 1) v = (nmsL v (vq v)) ++ ([98]) by first | (exfalso; omega) | (rw [vaL_s]; first | rw [if_pos (by omega), hcn (by omega)] | rw [if_neg (by omega), if_pos (by omega)] | rw [if_neg (by omega), if_neg (by omega), if_pos (by omega), hq2 (by omega)] | (rw [if_neg (by omega), if_neg (by omega), if_neg (by omega), if_pos (by omega), hq6 (by omega)]; simp only [List.append_assoc]) | (rw [if_neg (by omega), if_neg (by omega), if_neg (by omega), if_neg (by omega), if_pos (by omega)]; simp only [List.append_assoc]) | (rw [if_neg (by omega), if_neg (by omega), if_neg (by omega), if_neg (by omega), if_neg (by omega), hq2 (by omega)]; first | (rw [if_pos (by omega)]; rfl) | (rw [if_neg (by omega), if_pos (by omega)]) | (rw [if_neg (by omega), if_neg (by omega)]; rfl)))]
      exact hPa4
    refine y_sw (a := (vk v : Int)) (3) (t := 63) (i := .tableswitch 198 0 7 #[48, 59, 67, 59, 81, 81, 128, 148]) (len := 48) dm_X6_put_4 rfl rfl rfl (by omega) (by decide) (fun hb4 => ?_) (fun hb4 => ?_)
    · refine me1 (pc' := 64) (L' := [(0, .ref o), (1, .ref p)]) (S' := [.ref o]) dm_X6_put_63 rfl rfl rfl rfl ?_
      refine me1 (pc' := 65) (L' := [(0, .ref o), (1, .ref p)]) (S' := [.ref p, .ref o]) dm_X6_put_64 rfl rfl rfl rfl ?_
      refine x_cn (pc' := 68) (rest := []) dm_X6_put_65 rfl (g_inv (As := [.ref p]) (S := []) ho0 rfl rfl rfl (by omega)) rfl rfl rfl (k_putSigns (by omega) h2 hne hn hP hx1 hoA hv (by omega)) ?_
      rintro hy5 ⟨hSa5, hPa5⟩
      obtain ⟨fa5, ma5, da5, hoa5, -⟩ := id hPa5
      refine me2 (pc' := 202) (S' := []) dm_X6_put_68 rfl rfl rfl ?_
      refine y_ret (r := none) dm_X6_put_202 rfl rfl rfl ?_
      refine ⟨rfl, hSa5, ?_⟩
      rw [show vaL (e + 1) v = sgnL v by first | (exfalso; omega) | (rw [vaL_s]; first | rw [if_pos (by omega), hcn (by omega)] | rw [if_neg (by omega), if_pos (by omega)] | rw [if_neg (by omega), if_neg (by omega), if_pos (by omega), hq2 (by omega)] | (rw [if_neg (by omega), if_neg (by omega), if_neg (by omega), if_pos (by omega), hq6 (by omega)]; simp only [List.append_assoc]) | (rw [if_neg (by omega), if_neg (by omega), if_neg (by omega), if_neg (by omega), if_pos (by omega)]; simp only [List.append_assoc]) | (rw [if_neg (by omega), if_neg (by omega), if_neg (by omega), if_neg (by omega), if_neg (by omega), hq2 (by omega)]; first | (rw [if_pos (by omega)]; rfl) | (rw [if_neg (by omega), if_pos (by omega)]) | (rw [if_neg (by omega), if_neg (by omega)]; rfl)))]
      exact hPa5
    refine y_sw (a := (vk v : Int)) (4) (t := 85) (i := .tableswitch 198 0 7 #[48, 59, 67, 59, 81, 81, 128, 148]) (len := 48) dm_X6_put_4 rfl rfl rfl (by omega) (by decide) (fun hb5 => ?_) (fun hb5 => ?_)
    · refine me1 (pc' := 86) (L' := [(0, .ref o), (1, .ref p)]) (S' := [.ref p]) dm_X6_put_85 rfl rfl rfl rfl ?_
      refine me3 (pc' := 89) (S' := [ii (vm v : Int)]) dm_X6_put_86 (g_get (v := ii (vm v : Int)) hp rfl rfl (by omega)) rfl rfl rfl ?_
      refine me0 (pc' := 90) (S' := [ii 2, ii (vm v : Int)]) dm_X6_put_89 rfl rfl rfl rfl ?_
      refine y_2ge (a := (vm v : Int)) (b := 2) (t := 111) (pc' := 93) dm_X6_put_90 rfl rfl (by omega) (fun hb6 => ?_) (fun hb6 => ?_)
      · refine me1 (pc' := 112) (L' := [(0, .ref o), (1, .ref p)]) (S' := [.ref p]) dm_X6_put_111 rfl rfl rfl rfl ?_
        refine me3 (pc' := 115) (S' := [ii (vm v : Int)]) dm_X6_put_112 (g_get (v := ii (vm v : Int)) hp rfl rfl (by omega)) rfl rfl rfl ?_
        refine y_1ne (a := (vm v : Int)) (t := 124) (pc' := 118) dm_X6_put_115 rfl rfl (by omega) (fun hb7 => ?_) (fun hb7 => ?_)
        · refine me1 (pc' := 125) (L' := [(0, .ref o), (1, .ref p)]) (S' := [.ref o]) dm_X6_put_124 rfl rfl rfl rfl ?_
          refine me1 (pc' := 126) (L' := [(0, .ref o), (1, .ref p)]) (S' := [.ref p, .ref o]) dm_X6_put_125 rfl rfl rfl rfl ?_
          refine x_cn (pc' := 129) (rest := []) dm_X6_put_126 rfl (g_inv (As := [.ref p]) (S := []) ho0 rfl rfl rfl (by omega)) rfl rfl rfl (k_putNumbers (by omega) h2 hne hn hP hx1 hoA hv (by omega) (by omega)) ?_
          rintro hy6 ⟨hSa6, hPa6⟩
          obtain ⟨fa6, ma6, da6, hoa6, -⟩ := id hPa6
          refine me2 (pc' := 202) (S' := []) dm_X6_put_129 rfl rfl rfl ?_
          refine y_ret (r := none) dm_X6_put_202 rfl rfl rfl ?_
          refine ⟨rfl, hSa6, ?_⟩
          rw [show vaL (e + 1) v = nmsL v (vq v) by first | (exfalso; omega) | (rw [vaL_s]; first | rw [if_pos (by omega), hcn (by omega)] | rw [if_neg (by omega), if_pos (by omega)] | rw [if_neg (by omega), if_neg (by omega), if_pos (by omega), hq2 (by omega)] | (rw [if_neg (by omega), if_neg (by omega), if_neg (by omega), if_pos (by omega), hq6 (by omega)]; simp only [List.append_assoc]) | (rw [if_neg (by omega), if_neg (by omega), if_neg (by omega), if_neg (by omega), if_pos (by omega)]; simp only [List.append_assoc]) | (rw [if_neg (by omega), if_neg (by omega), if_neg (by omega), if_neg (by omega), if_neg (by omega), hq2 (by omega)]; first | (rw [if_pos (by omega)]; rfl) | (rw [if_neg (by omega), if_pos (by omega)]) | (rw [if_neg (by omega), if_neg (by omega)]; rfl)))]
          exact hPa6
        · refine me1 (pc' := 119) (L' := [(0, .ref o), (1, .ref p)]) (S' := [.ref o]) dm_X6_put_118 rfl rfl rfl rfl ?_
          refine me0 (pc' := 121) (S' := [ii 48, .ref o]) dm_X6_put_119 rfl rfl rfl rfl ?_
          refine x_cn (pc' := 124) (rest := []) dm_X6_put_121 rfl (g_inv (As := [ii 48]) (S := []) ho0 rfl rfl rfl (by omega)) rfl rfl rfl (k_add2 (by omega) h2 hne hn hP (by omega)) ?_
          rintro hy7 ⟨hSa7, hPa7⟩
          obtain ⟨fa7, ma7, da7, hoa7, -⟩ := id hPa7
          refine me1 (pc' := 125) (L' := [(0, .ref o), (1, .ref p)]) (S' := [.ref o]) dm_X6_put_124 rfl rfl rfl rfl ?_
          refine me1 (pc' := 126) (L' := [(0, .ref o), (1, .ref p)]) (S' := [.ref p, .ref o]) dm_X6_put_125 rfl rfl rfl rfl ?_
          refine x_cn (pc' := 129) (rest := []) dm_X6_put_126 rfl (g_inv (As := [.ref p]) (S := []) hoa7 rfl rfl rfl (by omega)) rfl rfl rfl (k_putNumbers (by omega) h2 hne hn hPa7 hx1 hoA (cv_pr hoA hSa7 hv) (by omega) (by omega)) ?_
          rintro hy8 ⟨hSa8, hPa8⟩
          rw [take_tk2] at hPa8
          replace hSa8 := prS_tr hSa7 hSa8
          obtain ⟨fa8, ma8, da8, hoa8, -⟩ := id hPa8
          refine me2 (pc' := 202) (S' := []) dm_X6_put_129 rfl rfl rfl ?_
          refine y_ret (r := none) dm_X6_put_202 rfl rfl rfl ?_
          refine ⟨rfl, hSa8, ?_⟩
          rw [show vaL (e + 1) v = ([48]) ++ (nmsL v (vq v)) by first | (exfalso; omega) | (rw [vaL_s]; first | rw [if_pos (by omega), hcn (by omega)] | rw [if_neg (by omega), if_pos (by omega)] | rw [if_neg (by omega), if_neg (by omega), if_pos (by omega), hq2 (by omega)] | (rw [if_neg (by omega), if_neg (by omega), if_neg (by omega), if_pos (by omega), hq6 (by omega)]; simp only [List.append_assoc]) | (rw [if_neg (by omega), if_neg (by omega), if_neg (by omega), if_neg (by omega), if_pos (by omega)]; simp only [List.append_assoc]) | (rw [if_neg (by omega), if_neg (by omega), if_neg (by omega), if_neg (by omega), if_neg (by omega), hq2 (by omega)]; first | (rw [if_pos (by omega)]; rfl) | (rw [if_neg (by omega), if_pos (by omega)]) | (rw [if_neg (by omega), if_neg (by omega)]; rfl)))]
          exact hPa8
      · refine me1 (pc' := 94) (L' := [(0, .ref o), (1, .ref p)]) (S' := [.ref o]) dm_X6_put_93 rfl rfl rfl rfl ?_
        refine me1 (pc' := 95) (L' := [(0, .ref o), (1, .ref p)]) (S' := [.ref p, .ref o]) dm_X6_put_94 rfl rfl rfl rfl ?_
        refine me3 (pc' := 98) (S' := [ii (vm v : Int), .ref o]) dm_X6_put_95 (g_get (v := ii (vm v : Int)) hp rfl rfl (by omega)) rfl rfl rfl ?_
        refine y_1ne (a := (vm v : Int)) (t := 106) (pc' := 101) dm_X6_put_98 rfl rfl (by omega) (fun hb8 => ?_) (fun hb8 => ?_)
        · refine me0 (pc' := 108) (S' := [ii 44, .ref o]) dm_X6_put_106 rfl rfl rfl rfl ?_
          refine x_cn (pc' := 111) (rest := []) dm_X6_put_108 rfl (g_inv (As := [ii 44]) (S := []) ho0 rfl rfl rfl (by omega)) rfl rfl rfl (k_add2 (by omega) h2 hne hn hP (by omega)) ?_
          rintro hy9 ⟨hSa9, hPa9⟩
          obtain ⟨fa9, ma9, da9, hoa9, -⟩ := id hPa9
          refine me1 (pc' := 112) (L' := [(0, .ref o), (1, .ref p)]) (S' := [.ref p]) dm_X6_put_111 rfl rfl rfl rfl ?_
          refine me3 (pc' := 115) (S' := [ii (vm v : Int)]) dm_X6_put_112 (g_get (v := ii (vm v : Int)) ((hSa9.2.2 p hpo.1 hpo.2.1 hpo.2.2).trans hp) rfl rfl (by omega)) rfl rfl rfl ?_
          refine y_1ne (a := (vm v : Int)) (t := 124) (pc' := 118) dm_X6_put_115 rfl rfl (by omega) (fun hb9 => ?_) (fun hb9 => ?_)
          · refine me1 (pc' := 125) (L' := [(0, .ref o), (1, .ref p)]) (S' := [.ref o]) dm_X6_put_124 rfl rfl rfl rfl ?_
            refine me1 (pc' := 126) (L' := [(0, .ref o), (1, .ref p)]) (S' := [.ref p, .ref o]) dm_X6_put_125 rfl rfl rfl rfl ?_
            refine x_cn (pc' := 129) (rest := []) dm_X6_put_126 rfl (g_inv (As := [.ref p]) (S := []) hoa9 rfl rfl rfl (by omega)) rfl rfl rfl (k_putNumbers (by omega) h2 hne hn hPa9 hx1 hoA (cv_pr hoA hSa9 hv) (by omega) (by omega)) ?_
            rintro hy10 ⟨hSa10, hPa10⟩
            rw [take_tk2] at hPa10
            replace hSa10 := prS_tr hSa9 hSa10
            obtain ⟨fa10, ma10, da10, hoa10, -⟩ := id hPa10
            refine me2 (pc' := 202) (S' := []) dm_X6_put_129 rfl rfl rfl ?_
            refine y_ret (r := none) dm_X6_put_202 rfl rfl rfl ?_
            refine ⟨rfl, hSa10, ?_⟩
            rw [show vaL (e + 1) v = ([44]) ++ (nmsL v (vq v)) by first | (exfalso; omega) | (rw [vaL_s]; first | rw [if_pos (by omega), hcn (by omega)] | rw [if_neg (by omega), if_pos (by omega)] | rw [if_neg (by omega), if_neg (by omega), if_pos (by omega), hq2 (by omega)] | (rw [if_neg (by omega), if_neg (by omega), if_neg (by omega), if_pos (by omega), hq6 (by omega)]; simp only [List.append_assoc]) | (rw [if_neg (by omega), if_neg (by omega), if_neg (by omega), if_neg (by omega), if_pos (by omega)]; simp only [List.append_assoc]) | (rw [if_neg (by omega), if_neg (by omega), if_neg (by omega), if_neg (by omega), if_neg (by omega), hq2 (by omega)]; first | (rw [if_pos (by omega)]; rfl) | (rw [if_neg (by omega), if_pos (by omega)]) | (rw [if_neg (by omega), if_neg (by omega)]; rfl)))]
            exact hPa10
          · refine me1 (pc' := 119) (L' := [(0, .ref o), (1, .ref p)]) (S' := [.ref o]) dm_X6_put_118 rfl rfl rfl rfl ?_
            refine me0 (pc' := 121) (S' := [ii 48, .ref o]) dm_X6_put_119 rfl rfl rfl rfl ?_
            refine x_cn (pc' := 124) (rest := []) dm_X6_put_121 rfl (g_inv (As := [ii 48]) (S := []) hoa9 rfl rfl rfl (by omega)) rfl rfl rfl (k_add2 (by omega) h2 hne hn hPa9 (by omega)) ?_
            rintro hy11 ⟨hSa11, hPa11⟩
            rw [take_tk2] at hPa11
            replace hSa11 := prS_tr hSa9 hSa11
            obtain ⟨fa11, ma11, da11, hoa11, -⟩ := id hPa11
            refine me1 (pc' := 125) (L' := [(0, .ref o), (1, .ref p)]) (S' := [.ref o]) dm_X6_put_124 rfl rfl rfl rfl ?_
            refine me1 (pc' := 126) (L' := [(0, .ref o), (1, .ref p)]) (S' := [.ref p, .ref o]) dm_X6_put_125 rfl rfl rfl rfl ?_
            refine x_cn (pc' := 129) (rest := []) dm_X6_put_126 rfl (g_inv (As := [.ref p]) (S := []) hoa11 rfl rfl rfl (by omega)) rfl rfl rfl (k_putNumbers (by omega) h2 hne hn hPa11 hx1 hoA (cv_pr hoA hSa11 hv) (by omega) (by omega)) ?_
            rintro hy12 ⟨hSa12, hPa12⟩
            rw [take_tk2] at hPa12
            replace hSa12 := prS_tr hSa11 hSa12
            obtain ⟨fa12, ma12, da12, hoa12, -⟩ := id hPa12
            refine me2 (pc' := 202) (S' := []) dm_X6_put_129 rfl rfl rfl ?_
            refine y_ret (r := none) dm_X6_put_202 rfl rfl rfl ?_
            refine ⟨rfl, hSa12, ?_⟩
            rw [show vaL (e + 1) v = (([44]) ++ ([48])) ++ (nmsL v (vq v)) by first | (exfalso; omega) | (rw [vaL_s]; first | rw [if_pos (by omega), hcn (by omega)] | rw [if_neg (by omega), if_pos (by omega)] | rw [if_neg (by omega), if_neg (by omega), if_pos (by omega), hq2 (by omega)] | (rw [if_neg (by omega), if_neg (by omega), if_neg (by omega), if_pos (by omega), hq6 (by omega)]; simp only [List.append_assoc]) | (rw [if_neg (by omega), if_neg (by omega), if_neg (by omega), if_neg (by omega), if_pos (by omega)]; simp only [List.append_assoc]) | (rw [if_neg (by omega), if_neg (by omega), if_neg (by omega), if_neg (by omega), if_neg (by omega), hq2 (by omega)]; first | (rw [if_pos (by omega)]; rfl) | (rw [if_neg (by omega), if_pos (by omega)]) | (rw [if_neg (by omega), if_neg (by omega)]; rfl)))]
            exact hPa12
        · refine me0 (pc' := 103) (S' := [ii 33, .ref o]) dm_X6_put_101 rfl rfl rfl rfl ?_
          refine me2 (pc' := 108) (S' := [ii 33, .ref o]) dm_X6_put_103 rfl rfl rfl ?_
          refine x_cn (pc' := 111) (rest := []) dm_X6_put_108 rfl (g_inv (As := [ii 33]) (S := []) ho0 rfl rfl rfl (by omega)) rfl rfl rfl (k_add2 (by omega) h2 hne hn hP (by omega)) ?_
          rintro hy13 ⟨hSa13, hPa13⟩
          obtain ⟨fa13, ma13, da13, hoa13, -⟩ := id hPa13
          refine me1 (pc' := 112) (L' := [(0, .ref o), (1, .ref p)]) (S' := [.ref p]) dm_X6_put_111 rfl rfl rfl rfl ?_
          refine me3 (pc' := 115) (S' := [ii (vm v : Int)]) dm_X6_put_112 (g_get (v := ii (vm v : Int)) ((hSa13.2.2 p hpo.1 hpo.2.1 hpo.2.2).trans hp) rfl rfl (by omega)) rfl rfl rfl ?_
          refine y_1ne (a := (vm v : Int)) (t := 124) (pc' := 118) dm_X6_put_115 rfl rfl (by omega) (fun hb10 => ?_) (fun hb10 => ?_)
          · refine me1 (pc' := 125) (L' := [(0, .ref o), (1, .ref p)]) (S' := [.ref o]) dm_X6_put_124 rfl rfl rfl rfl ?_
            refine me1 (pc' := 126) (L' := [(0, .ref o), (1, .ref p)]) (S' := [.ref p, .ref o]) dm_X6_put_125 rfl rfl rfl rfl ?_
            refine x_cn (pc' := 129) (rest := []) dm_X6_put_126 rfl (g_inv (As := [.ref p]) (S := []) hoa13 rfl rfl rfl (by omega)) rfl rfl rfl (k_putNumbers (by omega) h2 hne hn hPa13 hx1 hoA (cv_pr hoA hSa13 hv) (by omega) (by omega)) ?_
            rintro hy14 ⟨hSa14, hPa14⟩
            rw [take_tk2] at hPa14
            replace hSa14 := prS_tr hSa13 hSa14
            obtain ⟨fa14, ma14, da14, hoa14, -⟩ := id hPa14
            refine me2 (pc' := 202) (S' := []) dm_X6_put_129 rfl rfl rfl ?_
            refine y_ret (r := none) dm_X6_put_202 rfl rfl rfl ?_
            refine ⟨rfl, hSa14, ?_⟩
            rw [show vaL (e + 1) v = ([33]) ++ (nmsL v (vq v)) by first | (exfalso; omega) | (rw [vaL_s]; first | rw [if_pos (by omega), hcn (by omega)] | rw [if_neg (by omega), if_pos (by omega)] | rw [if_neg (by omega), if_neg (by omega), if_pos (by omega), hq2 (by omega)] | (rw [if_neg (by omega), if_neg (by omega), if_neg (by omega), if_pos (by omega), hq6 (by omega)]; simp only [List.append_assoc]) | (rw [if_neg (by omega), if_neg (by omega), if_neg (by omega), if_neg (by omega), if_pos (by omega)]; simp only [List.append_assoc]) | (rw [if_neg (by omega), if_neg (by omega), if_neg (by omega), if_neg (by omega), if_neg (by omega), hq2 (by omega)]; first | (rw [if_pos (by omega)]; rfl) | (rw [if_neg (by omega), if_pos (by omega)]) | (rw [if_neg (by omega), if_neg (by omega)]; rfl)))]
            exact hPa14
          · refine me1 (pc' := 119) (L' := [(0, .ref o), (1, .ref p)]) (S' := [.ref o]) dm_X6_put_118 rfl rfl rfl rfl ?_
            refine me0 (pc' := 121) (S' := [ii 48, .ref o]) dm_X6_put_119 rfl rfl rfl rfl ?_
            refine x_cn (pc' := 124) (rest := []) dm_X6_put_121 rfl (g_inv (As := [ii 48]) (S := []) hoa13 rfl rfl rfl (by omega)) rfl rfl rfl (k_add2 (by omega) h2 hne hn hPa13 (by omega)) ?_
            rintro hy15 ⟨hSa15, hPa15⟩
            rw [take_tk2] at hPa15
            replace hSa15 := prS_tr hSa13 hSa15
            obtain ⟨fa15, ma15, da15, hoa15, -⟩ := id hPa15
            refine me1 (pc' := 125) (L' := [(0, .ref o), (1, .ref p)]) (S' := [.ref o]) dm_X6_put_124 rfl rfl rfl rfl ?_
            refine me1 (pc' := 126) (L' := [(0, .ref o), (1, .ref p)]) (S' := [.ref p, .ref o]) dm_X6_put_125 rfl rfl rfl rfl ?_
            refine x_cn (pc' := 129) (rest := []) dm_X6_put_126 rfl (g_inv (As := [.ref p]) (S := []) hoa15 rfl rfl rfl (by omega)) rfl rfl rfl (k_putNumbers (by omega) h2 hne hn hPa15 hx1 hoA (cv_pr hoA hSa15 hv) (by omega) (by omega)) ?_
            rintro hy16 ⟨hSa16, hPa16⟩
            rw [take_tk2] at hPa16
            replace hSa16 := prS_tr hSa15 hSa16
            obtain ⟨fa16, ma16, da16, hoa16, -⟩ := id hPa16
            refine me2 (pc' := 202) (S' := []) dm_X6_put_129 rfl rfl rfl ?_
            refine y_ret (r := none) dm_X6_put_202 rfl rfl rfl ?_
            refine ⟨rfl, hSa16, ?_⟩
            rw [show vaL (e + 1) v = (([33]) ++ ([48])) ++ (nmsL v (vq v)) by first | (exfalso; omega) | (rw [vaL_s]; first | rw [if_pos (by omega), hcn (by omega)] | rw [if_neg (by omega), if_pos (by omega)] | rw [if_neg (by omega), if_neg (by omega), if_pos (by omega), hq2 (by omega)] | (rw [if_neg (by omega), if_neg (by omega), if_neg (by omega), if_pos (by omega), hq6 (by omega)]; simp only [List.append_assoc]) | (rw [if_neg (by omega), if_neg (by omega), if_neg (by omega), if_neg (by omega), if_pos (by omega)]; simp only [List.append_assoc]) | (rw [if_neg (by omega), if_neg (by omega), if_neg (by omega), if_neg (by omega), if_neg (by omega), hq2 (by omega)]; first | (rw [if_pos (by omega)]; rfl) | (rw [if_neg (by omega), if_pos (by omega)]) | (rw [if_neg (by omega), if_neg (by omega)]; rfl)))]
            exact hPa16
    refine y_sw (a := (vk v : Int)) (5) (t := 85) (i := .tableswitch 198 0 7 #[48, 59, 67, 59, 81, 81, 128, 148]) (len := 48) dm_X6_put_4 rfl rfl rfl (by omega) (by decide) (fun hb11 => ?_) (fun hb11 => ?_)
    · refine me1 (pc' := 86) (L' := [(0, .ref o), (1, .ref p)]) (S' := [.ref p]) dm_X6_put_85 rfl rfl rfl rfl ?_
      refine me3 (pc' := 89) (S' := [ii (vm v : Int)]) dm_X6_put_86 (g_get (v := ii (vm v : Int)) hp rfl rfl (by omega)) rfl rfl rfl ?_
      refine me0 (pc' := 90) (S' := [ii 2, ii (vm v : Int)]) dm_X6_put_89 rfl rfl rfl rfl ?_
      refine y_2ge (a := (vm v : Int)) (b := 2) (t := 111) (pc' := 93) dm_X6_put_90 rfl rfl (by omega) (fun hb12 => ?_) (fun hb12 => ?_)
      · refine me1 (pc' := 112) (L' := [(0, .ref o), (1, .ref p)]) (S' := [.ref p]) dm_X6_put_111 rfl rfl rfl rfl ?_
        refine me3 (pc' := 115) (S' := [ii (vm v : Int)]) dm_X6_put_112 (g_get (v := ii (vm v : Int)) hp rfl rfl (by omega)) rfl rfl rfl ?_
        refine y_1ne (a := (vm v : Int)) (t := 124) (pc' := 118) dm_X6_put_115 rfl rfl (by omega) (fun hb13 => ?_) (fun hb13 => ?_)
        · refine me1 (pc' := 125) (L' := [(0, .ref o), (1, .ref p)]) (S' := [.ref o]) dm_X6_put_124 rfl rfl rfl rfl ?_
          refine me1 (pc' := 126) (L' := [(0, .ref o), (1, .ref p)]) (S' := [.ref p, .ref o]) dm_X6_put_125 rfl rfl rfl rfl ?_
          refine x_cn (pc' := 129) (rest := []) dm_X6_put_126 rfl (g_inv (As := [.ref p]) (S := []) ho0 rfl rfl rfl (by omega)) rfl rfl rfl (k_putNumbers (by omega) h2 hne hn hP hx1 hoA hv (by omega) (by omega)) ?_
          rintro hy17 ⟨hSa17, hPa17⟩
          obtain ⟨fa17, ma17, da17, hoa17, -⟩ := id hPa17
          refine me2 (pc' := 202) (S' := []) dm_X6_put_129 rfl rfl rfl ?_
          refine y_ret (r := none) dm_X6_put_202 rfl rfl rfl ?_
          refine ⟨rfl, hSa17, ?_⟩
          rw [show vaL (e + 1) v = nmsL v (vq v) by first | (exfalso; omega) | (rw [vaL_s]; first | rw [if_pos (by omega), hcn (by omega)] | rw [if_neg (by omega), if_pos (by omega)] | rw [if_neg (by omega), if_neg (by omega), if_pos (by omega), hq2 (by omega)] | (rw [if_neg (by omega), if_neg (by omega), if_neg (by omega), if_pos (by omega), hq6 (by omega)]; simp only [List.append_assoc]) | (rw [if_neg (by omega), if_neg (by omega), if_neg (by omega), if_neg (by omega), if_pos (by omega)]; simp only [List.append_assoc]) | (rw [if_neg (by omega), if_neg (by omega), if_neg (by omega), if_neg (by omega), if_neg (by omega), hq2 (by omega)]; first | (rw [if_pos (by omega)]; rfl) | (rw [if_neg (by omega), if_pos (by omega)]) | (rw [if_neg (by omega), if_neg (by omega)]; rfl)))]
          exact hPa17
        · refine me1 (pc' := 119) (L' := [(0, .ref o), (1, .ref p)]) (S' := [.ref o]) dm_X6_put_118 rfl rfl rfl rfl ?_
          refine me0 (pc' := 121) (S' := [ii 48, .ref o]) dm_X6_put_119 rfl rfl rfl rfl ?_
          refine x_cn (pc' := 124) (rest := []) dm_X6_put_121 rfl (g_inv (As := [ii 48]) (S := []) ho0 rfl rfl rfl (by omega)) rfl rfl rfl (k_add2 (by omega) h2 hne hn hP (by omega)) ?_
          rintro hy18 ⟨hSa18, hPa18⟩
          obtain ⟨fa18, ma18, da18, hoa18, -⟩ := id hPa18
          refine me1 (pc' := 125) (L' := [(0, .ref o), (1, .ref p)]) (S' := [.ref o]) dm_X6_put_124 rfl rfl rfl rfl ?_
          refine me1 (pc' := 126) (L' := [(0, .ref o), (1, .ref p)]) (S' := [.ref p, .ref o]) dm_X6_put_125 rfl rfl rfl rfl ?_
          refine x_cn (pc' := 129) (rest := []) dm_X6_put_126 rfl (g_inv (As := [.ref p]) (S := []) hoa18 rfl rfl rfl (by omega)) rfl rfl rfl (k_putNumbers (by omega) h2 hne hn hPa18 hx1 hoA (cv_pr hoA hSa18 hv) (by omega) (by omega)) ?_
          rintro hy19 ⟨hSa19, hPa19⟩
          rw [take_tk2] at hPa19
          replace hSa19 := prS_tr hSa18 hSa19
          obtain ⟨fa19, ma19, da19, hoa19, -⟩ := id hPa19
          refine me2 (pc' := 202) (S' := []) dm_X6_put_129 rfl rfl rfl ?_
          refine y_ret (r := none) dm_X6_put_202 rfl rfl rfl ?_
          refine ⟨rfl, hSa19, ?_⟩
          rw [show vaL (e + 1) v = ([48]) ++ (nmsL v (vq v)) by first | (exfalso; omega) | (rw [vaL_s]; first | rw [if_pos (by omega), hcn (by omega)] | rw [if_neg (by omega), if_pos (by omega)] | rw [if_neg (by omega), if_neg (by omega), if_pos (by omega), hq2 (by omega)] | (rw [if_neg (by omega), if_neg (by omega), if_neg (by omega), if_pos (by omega), hq6 (by omega)]; simp only [List.append_assoc]) | (rw [if_neg (by omega), if_neg (by omega), if_neg (by omega), if_neg (by omega), if_pos (by omega)]; simp only [List.append_assoc]) | (rw [if_neg (by omega), if_neg (by omega), if_neg (by omega), if_neg (by omega), if_neg (by omega), hq2 (by omega)]; first | (rw [if_pos (by omega)]; rfl) | (rw [if_neg (by omega), if_pos (by omega)]) | (rw [if_neg (by omega), if_neg (by omega)]; rfl)))]
          exact hPa19
      · refine me1 (pc' := 94) (L' := [(0, .ref o), (1, .ref p)]) (S' := [.ref o]) dm_X6_put_93 rfl rfl rfl rfl ?_
        refine me1 (pc' := 95) (L' := [(0, .ref o), (1, .ref p)]) (S' := [.ref p, .ref o]) dm_X6_put_94 rfl rfl rfl rfl ?_
        refine me3 (pc' := 98) (S' := [ii (vm v : Int), .ref o]) dm_X6_put_95 (g_get (v := ii (vm v : Int)) hp rfl rfl (by omega)) rfl rfl rfl ?_
        refine y_1ne (a := (vm v : Int)) (t := 106) (pc' := 101) dm_X6_put_98 rfl rfl (by omega) (fun hb14 => ?_) (fun hb14 => ?_)
        · refine me0 (pc' := 108) (S' := [ii 44, .ref o]) dm_X6_put_106 rfl rfl rfl rfl ?_
          refine x_cn (pc' := 111) (rest := []) dm_X6_put_108 rfl (g_inv (As := [ii 44]) (S := []) ho0 rfl rfl rfl (by omega)) rfl rfl rfl (k_add2 (by omega) h2 hne hn hP (by omega)) ?_
          rintro hy20 ⟨hSa20, hPa20⟩
          obtain ⟨fa20, ma20, da20, hoa20, -⟩ := id hPa20
          refine me1 (pc' := 112) (L' := [(0, .ref o), (1, .ref p)]) (S' := [.ref p]) dm_X6_put_111 rfl rfl rfl rfl ?_
          refine me3 (pc' := 115) (S' := [ii (vm v : Int)]) dm_X6_put_112 (g_get (v := ii (vm v : Int)) ((hSa20.2.2 p hpo.1 hpo.2.1 hpo.2.2).trans hp) rfl rfl (by omega)) rfl rfl rfl ?_
          refine y_1ne (a := (vm v : Int)) (t := 124) (pc' := 118) dm_X6_put_115 rfl rfl (by omega) (fun hb15 => ?_) (fun hb15 => ?_)
          · refine me1 (pc' := 125) (L' := [(0, .ref o), (1, .ref p)]) (S' := [.ref o]) dm_X6_put_124 rfl rfl rfl rfl ?_
            refine me1 (pc' := 126) (L' := [(0, .ref o), (1, .ref p)]) (S' := [.ref p, .ref o]) dm_X6_put_125 rfl rfl rfl rfl ?_
            refine x_cn (pc' := 129) (rest := []) dm_X6_put_126 rfl (g_inv (As := [.ref p]) (S := []) hoa20 rfl rfl rfl (by omega)) rfl rfl rfl (k_putNumbers (by omega) h2 hne hn hPa20 hx1 hoA (cv_pr hoA hSa20 hv) (by omega) (by omega)) ?_
            rintro hy21 ⟨hSa21, hPa21⟩
            rw [take_tk2] at hPa21
            replace hSa21 := prS_tr hSa20 hSa21
            obtain ⟨fa21, ma21, da21, hoa21, -⟩ := id hPa21
            refine me2 (pc' := 202) (S' := []) dm_X6_put_129 rfl rfl rfl ?_
            refine y_ret (r := none) dm_X6_put_202 rfl rfl rfl ?_
            refine ⟨rfl, hSa21, ?_⟩
            rw [show vaL (e + 1) v = ([44]) ++ (nmsL v (vq v)) by first | (exfalso; omega) | (rw [vaL_s]; first | rw [if_pos (by omega), hcn (by omega)] | rw [if_neg (by omega), if_pos (by omega)] | rw [if_neg (by omega), if_neg (by omega), if_pos (by omega), hq2 (by omega)] | (rw [if_neg (by omega), if_neg (by omega), if_neg (by omega), if_pos (by omega), hq6 (by omega)]; simp only [List.append_assoc]) | (rw [if_neg (by omega), if_neg (by omega), if_neg (by omega), if_neg (by omega), if_pos (by omega)]; simp only [List.append_assoc]) | (rw [if_neg (by omega), if_neg (by omega), if_neg (by omega), if_neg (by omega), if_neg (by omega), hq2 (by omega)]; first | (rw [if_pos (by omega)]; rfl) | (rw [if_neg (by omega), if_pos (by omega)]) | (rw [if_neg (by omega), if_neg (by omega)]; rfl)))]
            exact hPa21
          · refine me1 (pc' := 119) (L' := [(0, .ref o), (1, .ref p)]) (S' := [.ref o]) dm_X6_put_118 rfl rfl rfl rfl ?_
            refine me0 (pc' := 121) (S' := [ii 48, .ref o]) dm_X6_put_119 rfl rfl rfl rfl ?_
            refine x_cn (pc' := 124) (rest := []) dm_X6_put_121 rfl (g_inv (As := [ii 48]) (S := []) hoa20 rfl rfl rfl (by omega)) rfl rfl rfl (k_add2 (by omega) h2 hne hn hPa20 (by omega)) ?_
            rintro hy22 ⟨hSa22, hPa22⟩
            rw [take_tk2] at hPa22
            replace hSa22 := prS_tr hSa20 hSa22
            obtain ⟨fa22, ma22, da22, hoa22, -⟩ := id hPa22
            refine me1 (pc' := 125) (L' := [(0, .ref o), (1, .ref p)]) (S' := [.ref o]) dm_X6_put_124 rfl rfl rfl rfl ?_
            refine me1 (pc' := 126) (L' := [(0, .ref o), (1, .ref p)]) (S' := [.ref p, .ref o]) dm_X6_put_125 rfl rfl rfl rfl ?_
            refine x_cn (pc' := 129) (rest := []) dm_X6_put_126 rfl (g_inv (As := [.ref p]) (S := []) hoa22 rfl rfl rfl (by omega)) rfl rfl rfl (k_putNumbers (by omega) h2 hne hn hPa22 hx1 hoA (cv_pr hoA hSa22 hv) (by omega) (by omega)) ?_
            rintro hy23 ⟨hSa23, hPa23⟩
            rw [take_tk2] at hPa23
            replace hSa23 := prS_tr hSa22 hSa23
            obtain ⟨fa23, ma23, da23, hoa23, -⟩ := id hPa23
            refine me2 (pc' := 202) (S' := []) dm_X6_put_129 rfl rfl rfl ?_
            refine y_ret (r := none) dm_X6_put_202 rfl rfl rfl ?_
            refine ⟨rfl, hSa23, ?_⟩
            rw [show vaL (e + 1) v = (([44]) ++ ([48])) ++ (nmsL v (vq v)) by first | (exfalso; omega) | (rw [vaL_s]; first | rw [if_pos (by omega), hcn (by omega)] | rw [if_neg (by omega), if_pos (by omega)] | rw [if_neg (by omega), if_neg (by omega), if_pos (by omega), hq2 (by omega)] | (rw [if_neg (by omega), if_neg (by omega), if_neg (by omega), if_pos (by omega), hq6 (by omega)]; simp only [List.append_assoc]) | (rw [if_neg (by omega), if_neg (by omega), if_neg (by omega), if_neg (by omega), if_pos (by omega)]; simp only [List.append_assoc]) | (rw [if_neg (by omega), if_neg (by omega), if_neg (by omega), if_neg (by omega), if_neg (by omega), hq2 (by omega)]; first | (rw [if_pos (by omega)]; rfl) | (rw [if_neg (by omega), if_pos (by omega)]) | (rw [if_neg (by omega), if_neg (by omega)]; rfl)))]
            exact hPa23
        · refine me0 (pc' := 103) (S' := [ii 33, .ref o]) dm_X6_put_101 rfl rfl rfl rfl ?_
          refine me2 (pc' := 108) (S' := [ii 33, .ref o]) dm_X6_put_103 rfl rfl rfl ?_
          refine x_cn (pc' := 111) (rest := []) dm_X6_put_108 rfl (g_inv (As := [ii 33]) (S := []) ho0 rfl rfl rfl (by omega)) rfl rfl rfl (k_add2 (by omega) h2 hne hn hP (by omega)) ?_
          rintro hy24 ⟨hSa24, hPa24⟩
          obtain ⟨fa24, ma24, da24, hoa24, -⟩ := id hPa24
          refine me1 (pc' := 112) (L' := [(0, .ref o), (1, .ref p)]) (S' := [.ref p]) dm_X6_put_111 rfl rfl rfl rfl ?_
          refine me3 (pc' := 115) (S' := [ii (vm v : Int)]) dm_X6_put_112 (g_get (v := ii (vm v : Int)) ((hSa24.2.2 p hpo.1 hpo.2.1 hpo.2.2).trans hp) rfl rfl (by omega)) rfl rfl rfl ?_
          refine y_1ne (a := (vm v : Int)) (t := 124) (pc' := 118) dm_X6_put_115 rfl rfl (by omega) (fun hb16 => ?_) (fun hb16 => ?_)
          · refine me1 (pc' := 125) (L' := [(0, .ref o), (1, .ref p)]) (S' := [.ref o]) dm_X6_put_124 rfl rfl rfl rfl ?_
            refine me1 (pc' := 126) (L' := [(0, .ref o), (1, .ref p)]) (S' := [.ref p, .ref o]) dm_X6_put_125 rfl rfl rfl rfl ?_
            refine x_cn (pc' := 129) (rest := []) dm_X6_put_126 rfl (g_inv (As := [.ref p]) (S := []) hoa24 rfl rfl rfl (by omega)) rfl rfl rfl (k_putNumbers (by omega) h2 hne hn hPa24 hx1 hoA (cv_pr hoA hSa24 hv) (by omega) (by omega)) ?_
            rintro hy25 ⟨hSa25, hPa25⟩
            rw [take_tk2] at hPa25
            replace hSa25 := prS_tr hSa24 hSa25
            obtain ⟨fa25, ma25, da25, hoa25, -⟩ := id hPa25
            refine me2 (pc' := 202) (S' := []) dm_X6_put_129 rfl rfl rfl ?_
            refine y_ret (r := none) dm_X6_put_202 rfl rfl rfl ?_
            refine ⟨rfl, hSa25, ?_⟩
            rw [show vaL (e + 1) v = ([33]) ++ (nmsL v (vq v)) by first | (exfalso; omega) | (rw [vaL_s]; first | rw [if_pos (by omega), hcn (by omega)] | rw [if_neg (by omega), if_pos (by omega)] | rw [if_neg (by omega), if_neg (by omega), if_pos (by omega), hq2 (by omega)] | (rw [if_neg (by omega), if_neg (by omega), if_neg (by omega), if_pos (by omega), hq6 (by omega)]; simp only [List.append_assoc]) | (rw [if_neg (by omega), if_neg (by omega), if_neg (by omega), if_neg (by omega), if_pos (by omega)]; simp only [List.append_assoc]) | (rw [if_neg (by omega), if_neg (by omega), if_neg (by omega), if_neg (by omega), if_neg (by omega), hq2 (by omega)]; first | (rw [if_pos (by omega)]; rfl) | (rw [if_neg (by omega), if_pos (by omega)]) | (rw [if_neg (by omega), if_neg (by omega)]; rfl)))]
            exact hPa25
          · refine me1 (pc' := 119) (L' := [(0, .ref o), (1, .ref p)]) (S' := [.ref o]) dm_X6_put_118 rfl rfl rfl rfl ?_
            refine me0 (pc' := 121) (S' := [ii 48, .ref o]) dm_X6_put_119 rfl rfl rfl rfl ?_
            refine x_cn (pc' := 124) (rest := []) dm_X6_put_121 rfl (g_inv (As := [ii 48]) (S := []) hoa24 rfl rfl rfl (by omega)) rfl rfl rfl (k_add2 (by omega) h2 hne hn hPa24 (by omega)) ?_
            rintro hy26 ⟨hSa26, hPa26⟩
            rw [take_tk2] at hPa26
            replace hSa26 := prS_tr hSa24 hSa26
            obtain ⟨fa26, ma26, da26, hoa26, -⟩ := id hPa26
            refine me1 (pc' := 125) (L' := [(0, .ref o), (1, .ref p)]) (S' := [.ref o]) dm_X6_put_124 rfl rfl rfl rfl ?_
            refine me1 (pc' := 126) (L' := [(0, .ref o), (1, .ref p)]) (S' := [.ref p, .ref o]) dm_X6_put_125 rfl rfl rfl rfl ?_
            refine x_cn (pc' := 129) (rest := []) dm_X6_put_126 rfl (g_inv (As := [.ref p]) (S := []) hoa26 rfl rfl rfl (by omega)) rfl rfl rfl (k_putNumbers (by omega) h2 hne hn hPa26 hx1 hoA (cv_pr hoA hSa26 hv) (by omega) (by omega)) ?_
            rintro hy27 ⟨hSa27, hPa27⟩
            rw [take_tk2] at hPa27
            replace hSa27 := prS_tr hSa26 hSa27
            obtain ⟨fa27, ma27, da27, hoa27, -⟩ := id hPa27
            refine me2 (pc' := 202) (S' := []) dm_X6_put_129 rfl rfl rfl ?_
            refine y_ret (r := none) dm_X6_put_202 rfl rfl rfl ?_
            refine ⟨rfl, hSa27, ?_⟩
            rw [show vaL (e + 1) v = (([33]) ++ ([48])) ++ (nmsL v (vq v)) by first | (exfalso; omega) | (rw [vaL_s]; first | rw [if_pos (by omega), hcn (by omega)] | rw [if_neg (by omega), if_pos (by omega)] | rw [if_neg (by omega), if_neg (by omega), if_pos (by omega), hq2 (by omega)] | (rw [if_neg (by omega), if_neg (by omega), if_neg (by omega), if_pos (by omega), hq6 (by omega)]; simp only [List.append_assoc]) | (rw [if_neg (by omega), if_neg (by omega), if_neg (by omega), if_neg (by omega), if_pos (by omega)]; simp only [List.append_assoc]) | (rw [if_neg (by omega), if_neg (by omega), if_neg (by omega), if_neg (by omega), if_neg (by omega), hq2 (by omega)]; first | (rw [if_pos (by omega)]; rfl) | (rw [if_neg (by omega), if_pos (by omega)]) | (rw [if_neg (by omega), if_neg (by omega)]; rfl)))]
            exact hPa27
    refine y_sw (a := (vk v : Int)) (6) (t := 132) (i := .tableswitch 198 0 7 #[48, 59, 67, 59, 81, 81, 128, 148]) (len := 48) dm_X6_put_4 rfl rfl rfl (by omega) (by decide) (fun hb17 => ?_) (fun hb17 => ?_)
    · refine me1 (pc' := 133) (L' := [(0, .ref o), (1, .ref p)]) (S' := [.ref o]) dm_X6_put_132 rfl rfl rfl rfl ?_
      refine me0 (pc' := 135) (S' := [ii 91, .ref o]) dm_X6_put_133 rfl rfl rfl rfl ?_
      refine x_cn (pc' := 138) (rest := []) dm_X6_put_135 rfl (g_inv (As := [ii 91]) (S := []) ho0 rfl rfl rfl (by omega)) rfl rfl rfl (k_add2 (by omega) h2 hne hn hP (by omega)) ?_
      rintro hy28 ⟨hSa28, hPa28⟩
      obtain ⟨fa28, ma28, da28, hoa28, -⟩ := id hPa28
      refine me1 (pc' := 139) (L' := [(0, .ref o), (1, .ref p)]) (S' := [.ref o]) dm_X6_put_138 rfl rfl rfl rfl ?_
      refine me1 (pc' := 140) (L' := [(0, .ref o), (1, .ref p)]) (S' := [.ref p, .ref o]) dm_X6_put_139 rfl rfl rfl rfl ?_
      refine x_cn (pc' := 143) (rest := []) dm_X6_put_140 rfl (g_inv (As := [.ref p]) (S := []) hoa28 rfl rfl rfl (by omega)) rfl rfl rfl (k_putNumbers (by omega) h2 hne hn hPa28 hx1 hoA (cv_pr hoA hSa28 hv) (by omega) (by omega)) ?_
      rintro hy29 ⟨hSa29, hPa29⟩
      rw [take_tk2] at hPa29
      replace hSa29 := prS_tr hSa28 hSa29
      obtain ⟨fa29, ma29, da29, hoa29, -⟩ := id hPa29
      refine me1 (pc' := 144) (L' := [(0, .ref o), (1, .ref p)]) (S' := [.ref o]) dm_X6_put_143 rfl rfl rfl rfl ?_
      refine me0 (pc' := 146) (S' := [ii 93, .ref o]) dm_X6_put_144 rfl rfl rfl rfl ?_
      refine x_cn (pc' := 149) (rest := []) dm_X6_put_146 rfl (g_inv (As := [ii 93]) (S := []) hoa29 rfl rfl rfl (by omega)) rfl rfl rfl (k_add2 (by omega) h2 hne hn hPa29 (by omega)) ?_
      rintro hy30 ⟨hSa30, hPa30⟩
      rw [take_tk2] at hPa30
      replace hSa30 := prS_tr hSa29 hSa30
      obtain ⟨fa30, ma30, da30, hoa30, -⟩ := id hPa30
      refine me2 (pc' := 202) (S' := []) dm_X6_put_149 rfl rfl rfl ?_
      refine y_ret (r := none) dm_X6_put_202 rfl rfl rfl ?_
      refine ⟨rfl, hSa30, ?_⟩
      rw [show vaL (e + 1) v = (([91]) ++ (nmsL v (vq v))) ++ ([93]) by first | (exfalso; omega) | (rw [vaL_s]; first | rw [if_pos (by omega), hcn (by omega)] | rw [if_neg (by omega), if_pos (by omega)] | rw [if_neg (by omega), if_neg (by omega), if_pos (by omega), hq2 (by omega)] | (rw [if_neg (by omega), if_neg (by omega), if_neg (by omega), if_pos (by omega), hq6 (by omega)]; simp only [List.append_assoc]) | (rw [if_neg (by omega), if_neg (by omega), if_neg (by omega), if_neg (by omega), if_pos (by omega)]; simp only [List.append_assoc]) | (rw [if_neg (by omega), if_neg (by omega), if_neg (by omega), if_neg (by omega), if_neg (by omega), hq2 (by omega)]; first | (rw [if_pos (by omega)]; rfl) | (rw [if_neg (by omega), if_pos (by omega)]) | (rw [if_neg (by omega), if_neg (by omega)]; rfl)))]
      exact hPa30
    refine y_sw (a := (vk v : Int)) (7) (t := 152) (i := .tableswitch 198 0 7 #[48, 59, 67, 59, 81, 81, 128, 148]) (len := 48) dm_X6_put_4 rfl rfl rfl (by omega) (by decide) (fun hb18 => ?_) (fun hb18 => ?_)
    · refine me1 (pc' := 153) (L' := [(0, .ref o), (1, .ref p)]) (S' := [.ref o]) dm_X6_put_152 rfl rfl rfl rfl ?_
      refine me0 (pc' := 155) (S' := [ii 40, .ref o]) dm_X6_put_153 rfl rfl rfl rfl ?_
      refine x_cn (pc' := 158) (rest := []) dm_X6_put_155 rfl (g_inv (As := [ii 40]) (S := []) ho0 rfl rfl rfl (by omega)) rfl rfl rfl (k_add2 (by omega) h2 hne hn hP (by omega)) ?_
      rintro hy31 ⟨hSa31, hPa31⟩
      obtain ⟨fa31, ma31, da31, hoa31, -⟩ := id hPa31
      refine me0 (pc' := 159) (S' := [ii 0]) dm_X6_put_158 rfl rfl rfl rfl ?_
      refine me1 (pc' := 160) (L' := [(2, ii 0), (0, .ref o), (1, .ref p)]) (S' := []) dm_X6_put_159 rfl rfl rfl rfl ?_
      have lp160 : ∀ (n160 : Nat) (k : Nat) (hh : mj_H), vm v - k = n160 → (k ≤ vm v) → (prS o b g h hh) → (prt hh o b g n ((l ++ ([40] ++ nstL (fun k => vaL e (vd v k)) k)).take n)) → pgE xt (d - 1) 6 3 false (Option.none : Option Jvm.ClassFile.FieldType) (mj_dec prog_8_method_5_code) 160 [(0, .ref o), (1, .ref p), (2, ii (k : Int))] [] hh (fun r h' => r = none ∧ prS o b g h h' ∧ prt h' o b g n ((l ++ vaL (e + 1) v).take n)) := by
        intro n160
        induction n160 using Nat.strongRecOn with
        | ind n160 ih160 =>
          intro k hh hm160 hk hS hPk
          obtain ⟨fh, mh, dh, hoh, -⟩ := id hPk
          refine me1 (pc' := 161) (L' := [(0, .ref o), (1, .ref p), (2, ii (k : Int))]) (S' := [ii (k : Int)]) dm_X6_put_160 rfl rfl rfl rfl ?_
          refine me1 (pc' := 162) (L' := [(0, .ref o), (1, .ref p), (2, ii (k : Int))]) (S' := [.ref p, ii (k : Int)]) dm_X6_put_161 rfl rfl rfl rfl ?_
          refine me3 (pc' := 165) (S' := [ii (vm v : Int), ii (k : Int)]) dm_X6_put_162 (g_get (v := ii (vm v : Int)) ((hS.2.2 p hpo.1 hpo.2.1 hpo.2.2).trans hp) rfl rfl (by omega)) rfl rfl rfl ?_
          refine y_2ge (a := (k : Int)) (b := (vm v : Int)) (t := 193) (pc' := 168) dm_X6_put_165 rfl rfl (by omega) (fun hb19 => ?_) (fun hb19 => ?_)
          · refine me1 (pc' := 194) (L' := [(0, .ref o), (1, .ref p), (2, ii (k : Int))]) (S' := [.ref o]) dm_X6_put_193 rfl rfl rfl rfl ?_
            refine me0 (pc' := 196) (S' := [ii 41, .ref o]) dm_X6_put_194 rfl rfl rfl rfl ?_
            refine x_cn (pc' := 199) (rest := []) dm_X6_put_196 rfl (g_inv (As := [ii 41]) (S := []) hoh rfl rfl rfl (by omega)) rfl rfl rfl (k_add2 (by omega) h2 hne hn hPk (by omega)) ?_
            rintro hy32 ⟨hSa32, hPa32⟩
            rw [take_tk2] at hPa32
            replace hSa32 := prS_tr hS hSa32
            obtain ⟨fa32, ma32, da32, hoa32, -⟩ := id hPa32
            refine me2 (pc' := 202) (S' := []) dm_X6_put_199 rfl rfl rfl ?_
            refine y_ret (r := none) dm_X6_put_202 rfl rfl rfl ?_
            refine ⟨rfl, hSa32, ?_⟩
            have hkq : k = vm v := by omega
            rw [hkq] at hPa32
            rw [show vaL (e + 1) v = ([40] ++ nstL (fun k => vaL e (vd v k)) (vm v)) ++ ([41]) by first | (exfalso; omega) | (rw [vaL_s]; first | rw [if_pos (by omega), hcn (by omega)] | rw [if_neg (by omega), if_pos (by omega)] | rw [if_neg (by omega), if_neg (by omega), if_pos (by omega), hq2 (by omega)] | (rw [if_neg (by omega), if_neg (by omega), if_neg (by omega), if_pos (by omega), hq6 (by omega)]; simp only [List.append_assoc]) | (rw [if_neg (by omega), if_neg (by omega), if_neg (by omega), if_neg (by omega), if_pos (by omega)]; simp only [List.append_assoc]) | (rw [if_neg (by omega), if_neg (by omega), if_neg (by omega), if_neg (by omega), if_neg (by omega), hq2 (by omega)]; first | (rw [if_pos (by omega)]; rfl) | (rw [if_neg (by omega), if_pos (by omega)]) | (rw [if_neg (by omega), if_neg (by omega)]; rfl)))]
            exact hPa32
          · refine me1 (pc' := 169) (L' := [(0, .ref o), (1, .ref p), (2, ii (k : Int))]) (S' := [ii (k : Int)]) dm_X6_put_168 rfl rfl rfl rfl ?_
            refine y_1le (a := (k : Int)) (t := 178) (pc' := 172) dm_X6_put_169 rfl rfl (by omega) (fun hb20 => ?_) (fun hb20 => ?_)
            · refine me1 (pc' := 179) (L' := [(0, .ref o), (1, .ref p), (2, ii (k : Int))]) (S' := [.ref o]) dm_X6_put_178 rfl rfl rfl rfl ?_
              refine me1 (pc' := 180) (L' := [(0, .ref o), (1, .ref p), (2, ii (k : Int))]) (S' := [.ref p, .ref o]) dm_X6_put_179 rfl rfl rfl rfl ?_
              refine me1 (pc' := 181) (L' := [(0, .ref o), (1, .ref p), (2, ii (k : Int))]) (S' := [ii (k : Int), .ref p, .ref o]) dm_X6_put_180 rfl rfl rfl rfl ?_
              obtain ⟨q, hqv, hcq⟩ := c_itemAt7 (xt := xt) (d := d - 1) (i := k) (by omega) (cv_pr hoA hS hv) (by omega) (by omega)
              refine x_cp (pc' := 184) (v := .ref q) (rest := [.ref o]) dm_X6_put_181 rfl (g_inv (As := [ii (k : Int)]) (S := [.ref o]) ((hS.2.2 p hpo.1 hpo.2.1 hpo.2.2).trans hp) rfl rfl rfl (by omega)) rfl rfl rfl (hcq) ?_
              refine x_cn (pc' := 187) (rest := []) dm_X6_put_184 rfl (g_inv (As := [.ref q]) (S := []) hoh rfl rfl rfl (by omega)) rfl rfl rfl (ih (by omega) h2 hne hn hPk hx1 hoA hqv) ?_
              rintro hy33 ⟨hSa33, hPa33⟩
              rw [take_tk2] at hPa33
              replace hSa33 := prS_tr hS hSa33
              obtain ⟨fa33, ma33, da33, hoa33, -⟩ := id hPa33
              refine y_iinc (pc' := 190) (L' := [(2, ii ((k : Int) + 1)), (0, .ref o), (1, .ref p)]) dm_X6_put_187 (y_incp (a := (k : Int)) (c := 1) rfl rfl (by decide)) rfl ?_
              refine me2 (pc' := 160) (S' := []) dm_X6_put_190 rfl rfl rfl ?_
              exact pg_sub (L := [(0, .ref o), (1, .ref p), (2, ii ((k + 1) : Int))]) rfl rfl rfl (ih160 (vm v - (k + 1)) (by omega) (k + 1) hy33 rfl (by omega) hSa33 (show prt hy33 o b g n ((l ++ ([40] ++ nstL (fun k => vaL e (vd v k)) (k + 1))).take n) from (show ([40] ++ nstL (fun k => vaL e (vd v k)) k) ++ (vaL e (vd v k)) = [40] ++ nstL (fun k => vaL e (vd v k)) (k + 1) by show _ = [40] ++ (nstL (fun k => vaL e (vd v k)) k ++ ((if k = 0 then [] else [59]) ++ vaL e (vd v k))); first | (rw [if_pos (show k = 0 by omega)]; simp only [List.append_assoc, List.nil_append]) | (rw [if_neg (show ¬ k = 0 by omega)]; simp only [List.append_assoc])) ▸ hPa33))
            · refine me1 (pc' := 173) (L' := [(0, .ref o), (1, .ref p), (2, ii (k : Int))]) (S' := [.ref o]) dm_X6_put_172 rfl rfl rfl rfl ?_
              refine me0 (pc' := 175) (S' := [ii 59, .ref o]) dm_X6_put_173 rfl rfl rfl rfl ?_
              refine x_cn (pc' := 178) (rest := []) dm_X6_put_175 rfl (g_inv (As := [ii 59]) (S := []) hoh rfl rfl rfl (by omega)) rfl rfl rfl (k_add2 (by omega) h2 hne hn hPk (by omega)) ?_
              rintro hy34 ⟨hSa34, hPa34⟩
              rw [take_tk2] at hPa34
              replace hSa34 := prS_tr hS hSa34
              obtain ⟨fa34, ma34, da34, hoa34, -⟩ := id hPa34
              refine me1 (pc' := 179) (L' := [(0, .ref o), (1, .ref p), (2, ii (k : Int))]) (S' := [.ref o]) dm_X6_put_178 rfl rfl rfl rfl ?_
              refine me1 (pc' := 180) (L' := [(0, .ref o), (1, .ref p), (2, ii (k : Int))]) (S' := [.ref p, .ref o]) dm_X6_put_179 rfl rfl rfl rfl ?_
              refine me1 (pc' := 181) (L' := [(0, .ref o), (1, .ref p), (2, ii (k : Int))]) (S' := [ii (k : Int), .ref p, .ref o]) dm_X6_put_180 rfl rfl rfl rfl ?_
              obtain ⟨q, hqv, hcq⟩ := c_itemAt7 (xt := xt) (d := d - 1) (i := k) (by omega) (cv_pr hoA hSa34 hv) (by omega) (by omega)
              refine x_cp (pc' := 184) (v := .ref q) (rest := [.ref o]) dm_X6_put_181 rfl (g_inv (As := [ii (k : Int)]) (S := [.ref o]) ((hSa34.2.2 p hpo.1 hpo.2.1 hpo.2.2).trans hp) rfl rfl rfl (by omega)) rfl rfl rfl (hcq) ?_
              refine x_cn (pc' := 187) (rest := []) dm_X6_put_184 rfl (g_inv (As := [.ref q]) (S := []) hoa34 rfl rfl rfl (by omega)) rfl rfl rfl (ih (by omega) h2 hne hn hPa34 hx1 hoA hqv) ?_
              rintro hy35 ⟨hSa35, hPa35⟩
              rw [take_tk2] at hPa35
              replace hSa35 := prS_tr hSa34 hSa35
              obtain ⟨fa35, ma35, da35, hoa35, -⟩ := id hPa35
              refine y_iinc (pc' := 190) (L' := [(2, ii ((k : Int) + 1)), (0, .ref o), (1, .ref p)]) dm_X6_put_187 (y_incp (a := (k : Int)) (c := 1) rfl rfl (by decide)) rfl ?_
              refine me2 (pc' := 160) (S' := []) dm_X6_put_190 rfl rfl rfl ?_
              exact pg_sub (L := [(0, .ref o), (1, .ref p), (2, ii ((k + 1) : Int))]) rfl rfl rfl (ih160 (vm v - (k + 1)) (by omega) (k + 1) hy35 rfl (by omega) hSa35 (show prt hy35 o b g n ((l ++ ([40] ++ nstL (fun k => vaL e (vd v k)) (k + 1))).take n) from (show (([40] ++ nstL (fun k => vaL e (vd v k)) k) ++ ([59])) ++ (vaL e (vd v k)) = [40] ++ nstL (fun k => vaL e (vd v k)) (k + 1) by show _ = [40] ++ (nstL (fun k => vaL e (vd v k)) k ++ ((if k = 0 then [] else [59]) ++ vaL e (vd v k))); first | (rw [if_pos (show k = 0 by omega)]; simp only [List.append_assoc, List.nil_append]) | (rw [if_neg (show ¬ k = 0 by omega)]; simp only [List.append_assoc])) ▸ hPa35))
      exact pg_sub (L := [(0, .ref o), (1, .ref p), (2, ii (0 : Int))]) rfl rfl rfl (lp160 _ 0 hy31 rfl (Nat.zero_le _) hSa31 (show prt hy31 o b g n ((l ++ ([40] ++ nstL (fun k => vaL e (vd v k)) 0)).take n) from (show [40] = [40] ++ nstL (fun k => vaL e (vd v k)) 0 from rfl) ▸ hPa31))
    refine me2 (pc' := 202) (S' := []) dm_X6_put_4 (sw_tdef [Int32.ofInt 0, Int32.ofInt 1, Int32.ofInt 2, Int32.ofInt 3, Int32.ofInt 4, Int32.ofInt 5, Int32.ofInt 6, Int32.ofInt 7] rfl rfl rfl ⟨y_no (by omega) (by decide) hb1, y_no (by omega) (by decide) hb2, y_no (by omega) (by decide) hb3, y_no (by omega) (by decide) hb4, y_no (by omega) (by decide) hb5, y_no (by omega) (by decide) hb11, y_no (by omega) (by decide) hb17, y_no (by omega) (by decide) hb18, trivial⟩) rfl rfl ?_
    refine y_ret (r := none) dm_X6_put_202 rfl rfl rfl ?_
    exfalso; omega
