theorem l_div2 {x y : Int64} (h : ¬ (x.toInt = -9223372036854775808 ∧ y.toInt = -1)) : (x / y).toInt = x.toInt.tdiv y.toInt := by
  by_cases z : y.toInt = -1
  · refine Int64.toInt_div_of_ne_left x y (fun e => h ⟨?_, z⟩)
    rw [e]; rfl
  · exact l_divI z
theorem tmod_rng (x y : Int) : (0 ≤ x → 0 ≤ x.tmod y ∧ x.tmod y ≤ x) ∧ (x ≤ 0 → x.tmod y ≤ 0 ∧ x ≤ x.tmod y) := by
  have h1 : (x.tmod y).natAbs ≤ x.natAbs := by rw [Int.natAbs_tmod]; exact Nat.mod_le _ _
  constructor
  · intro h
    have h2 := Int.tmod_nonneg y h
    omega
  · intro h
    have h2 := Int.tmod_nonneg y (show 0 ≤ -x by omega)
    rw [Int.neg_tmod] at h2
    omega
theorem l_dm {x y : Int64} (h : ¬ (x.toInt = -9223372036854775808 ∧ y.toInt = -1)) : (x / y * y).toInt = x.toInt - x.toInt.tmod y.toInt := by
  have h1 := l_div2 h
  have h2 := Int.mul_tdiv_add_tmod x.toInt y.toInt
  have h3 : y.toInt * x.toInt.tdiv y.toInt = x.toInt.tdiv y.toInt * y.toInt := Int.mul_comm _ _
  have h4 := tmod_rng x.toInt y.toInt
  have h5 := l_rng x
  have h6 : (x / y).toInt * y.toInt = x.toInt - x.toInt.tmod y.toInt := by rw [h1]; omega
  rw [l_mulI (by rw [h6]; generalize x.toInt.tmod y.toInt = t at *; omega), h6]
theorem l_rm {x y : Int64} : (x - x / y * y).toInt = x.toInt.tmod y.toInt := by
  by_cases h : x.toInt = -9223372036854775808 ∧ y.toInt = -1
  · have e1 : x = Int64.ofInt (-9223372036854775808) := by rw [← h.1, Int64.ofInt_toInt]
    have e2 : y = Int64.ofInt (-1) := by rw [← h.2, Int64.ofInt_toInt]
    rw [e1, e2]; decide
  · have h4 := tmod_rng x.toInt y.toInt
    have h5 := l_rng x
    have h6 := l_dm h
    have h7 : x.toInt - (x / y * y).toInt = x.toInt.tmod y.toInt := by omega
    rw [l_subI (by rw [h7]; generalize x.toInt.tmod y.toInt = t at *; omega), h7]
/-- divided: a fault, and a number -/
def quoF (a b : Int64) : Int × Int64 := if b.toInt = 0 then (5, Int64.ofInt 0) else if a.toInt = -9223372036854775808 ∧ b.toInt = -1 then (6, Int64.ofInt 0) else (0, Int64.ofInt (qotI a.toInt b.toInt))
def rstF (a b : Int64) : Int × Int64 := if b.toInt = 0 then (5, Int64.ofInt 0) else (0, Int64.ofInt (rstI a.toInt b.toInt))
/-- the object Paired -/
abbrev PO (vb f : Int) (q : Nat) (sz lv nm vm : Int) (rw_ : Bool) (ro va : Value) (nu vu : Int) : mj_E := cO 5 [ii vb, ii f, .ref q, ii sz, ii lv, ii nm, ii vm, zz rw_, ro, va, ii nu, ii vu]
/-- asked of two that are no nests, ahead of their items -/
def askF (v w : VV) : Int := if vk v ≤ 1 ∨ vk w ≤ 1 then 0 else if ¬ ((2 ≤ vk v ∧ vk v ≤ 5) ↔ (2 ≤ vk w ∧ vk w ≤ 5)) then 3 else if vm v ≠ vm w ∨ vc v ≠ vc w then 4 else 0
set_option maxRecDepth 20000 in
theorem pm_X5_quotient : mj_mmof pg_ms 96 = some ((⟨"ArrayCalculator$Paired", "quotient", "(JJ)J"⟩, prog_7_method_11_code, 7, (Option.some Jvm.ClassFile.FieldType.long)), 5, false, mj_dec prog_7_method_11_code) := rfl
theorem dm_X5_quotient_0 : mj_dec prog_7_method_11_code 0 = some (.lload_n 3, 1) := by decide +kernel
theorem dm_X5_quotient_1 : mj_dec prog_7_method_11_code 1 = some (.lconst 0, 1) := by decide +kernel
theorem dm_X5_quotient_2 : mj_dec prog_7_method_11_code 2 = some (.lcmp, 1) := by decide +kernel
theorem dm_X5_quotient_3 : mj_dec prog_7_method_11_code 3 = some (.ifCond .ne 10, 3) := by decide +kernel
theorem dm_X5_quotient_6 : mj_dec prog_7_method_11_code 6 = some (.aload_n 0, 1) := by decide +kernel
theorem dm_X5_quotient_7 : mj_dec prog_7_method_11_code 7 = some (.iconst 5, 1) := by decide +kernel
theorem dm_X5_quotient_8 : mj_dec prog_7_method_11_code 8 = some (.putfield 25, 3) := by decide +kernel
theorem dm_X5_quotient_11 : mj_dec prog_7_method_11_code 11 = some (.lconst 0, 1) := by decide +kernel
theorem dm_X5_quotient_12 : mj_dec prog_7_method_11_code 12 = some (.lreturn, 1) := by decide +kernel
theorem dm_X5_quotient_13 : mj_dec prog_7_method_11_code 13 = some (.lload_n 1, 1) := by decide +kernel
theorem dm_X5_quotient_14 : mj_dec prog_7_method_11_code 14 = some (.ldc2_w 175, 3) := by decide +kernel
theorem dm_X5_quotient_17 : mj_dec prog_7_method_11_code 17 = some (.lcmp, 1) := by decide +kernel
theorem dm_X5_quotient_18 : mj_dec prog_7_method_11_code 18 = some (.ifCond .ne 19, 3) := by decide +kernel
theorem dm_X5_quotient_21 : mj_dec prog_7_method_11_code 21 = some (.lload_n 3, 1) := by decide +kernel
theorem dm_X5_quotient_22 : mj_dec prog_7_method_11_code 22 = some (.ldc2_w 177, 3) := by decide +kernel
theorem dm_X5_quotient_25 : mj_dec prog_7_method_11_code 25 = some (.lcmp, 1) := by decide +kernel
theorem dm_X5_quotient_26 : mj_dec prog_7_method_11_code 26 = some (.ifCond .ne 11, 3) := by decide +kernel
theorem dm_X5_quotient_29 : mj_dec prog_7_method_11_code 29 = some (.aload_n 0, 1) := by decide +kernel
theorem dm_X5_quotient_30 : mj_dec prog_7_method_11_code 30 = some (.bipush 6, 2) := by decide +kernel
theorem dm_X5_quotient_32 : mj_dec prog_7_method_11_code 32 = some (.putfield 25, 3) := by decide +kernel
theorem dm_X5_quotient_35 : mj_dec prog_7_method_11_code 35 = some (.lconst 0, 1) := by decide +kernel
theorem dm_X5_quotient_36 : mj_dec prog_7_method_11_code 36 = some (.lreturn, 1) := by decide +kernel
theorem dm_X5_quotient_37 : mj_dec prog_7_method_11_code 37 = some (.lload_n 1, 1) := by decide +kernel
theorem dm_X5_quotient_38 : mj_dec prog_7_method_11_code 38 = some (.lload_n 3, 1) := by decide +kernel
theorem dm_X5_quotient_39 : mj_dec prog_7_method_11_code 39 = some (.ldiv, 1) := by decide +kernel
theorem dm_X5_quotient_40 : mj_dec prog_7_method_11_code 40 = some (.lstore 5, 2) := by decide +kernel
theorem dm_X5_quotient_42 : mj_dec prog_7_method_11_code 42 = some (.lload 5, 2) := by decide +kernel
theorem dm_X5_quotient_44 : mj_dec prog_7_method_11_code 44 = some (.lload_n 3, 1) := by decide +kernel
theorem dm_X5_quotient_45 : mj_dec prog_7_method_11_code 45 = some (.lmul, 1) := by decide +kernel
theorem dm_X5_quotient_46 : mj_dec prog_7_method_11_code 46 = some (.lload_n 1, 1) := by decide +kernel
theorem dm_X5_quotient_47 : mj_dec prog_7_method_11_code 47 = some (.lcmp, 1) := by decide +kernel
theorem dm_X5_quotient_48 : mj_dec prog_7_method_11_code 48 = some (.ifCond .eq 35, 3) := by decide +kernel
theorem dm_X5_quotient_51 : mj_dec prog_7_method_11_code 51 = some (.lload_n 1, 1) := by decide +kernel
theorem dm_X5_quotient_52 : mj_dec prog_7_method_11_code 52 = some (.lconst 0, 1) := by decide +kernel
theorem dm_X5_quotient_53 : mj_dec prog_7_method_11_code 53 = some (.lcmp, 1) := by decide +kernel
theorem dm_X5_quotient_54 : mj_dec prog_7_method_11_code 54 = some (.ifCond .ge 7, 3) := by decide +kernel
theorem dm_X5_quotient_57 : mj_dec prog_7_method_11_code 57 = some (.iconst 1, 1) := by decide +kernel
theorem dm_X5_quotient_58 : mj_dec prog_7_method_11_code 58 = some (.goto 4, 3) := by decide +kernel
theorem dm_X5_quotient_61 : mj_dec prog_7_method_11_code 61 = some (.iconst 0, 1) := by decide +kernel
theorem dm_X5_quotient_62 : mj_dec prog_7_method_11_code 62 = some (.lload_n 3, 1) := by decide +kernel
theorem dm_X5_quotient_63 : mj_dec prog_7_method_11_code 63 = some (.lconst 0, 1) := by decide +kernel
theorem dm_X5_quotient_64 : mj_dec prog_7_method_11_code 64 = some (.lcmp, 1) := by decide +kernel
theorem dm_X5_quotient_65 : mj_dec prog_7_method_11_code 65 = some (.ifCond .ge 7, 3) := by decide +kernel
theorem dm_X5_quotient_68 : mj_dec prog_7_method_11_code 68 = some (.iconst 1, 1) := by decide +kernel
theorem dm_X5_quotient_69 : mj_dec prog_7_method_11_code 69 = some (.goto 4, 3) := by decide +kernel
theorem dm_X5_quotient_72 : mj_dec prog_7_method_11_code 72 = some (.iconst 0, 1) := by decide +kernel
theorem dm_X5_quotient_73 : mj_dec prog_7_method_11_code 73 = some (.if_icmp .eq 10, 3) := by decide +kernel
theorem dm_X5_quotient_76 : mj_dec prog_7_method_11_code 76 = some (.lload 5, 2) := by decide +kernel
theorem dm_X5_quotient_78 : mj_dec prog_7_method_11_code 78 = some (.lconst 1, 1) := by decide +kernel
theorem dm_X5_quotient_79 : mj_dec prog_7_method_11_code 79 = some (.lsub, 1) := by decide +kernel
theorem dm_X5_quotient_80 : mj_dec prog_7_method_11_code 80 = some (.goto 5, 3) := by decide +kernel
theorem dm_X5_quotient_83 : mj_dec prog_7_method_11_code 83 = some (.lload 5, 2) := by decide +kernel
theorem dm_X5_quotient_85 : mj_dec prog_7_method_11_code 85 = some (.lreturn, 1) := by decide +kernel
theorem p_quotient {xt : mj_X} {d : Nat} {h : mj_H} {a b : Int64} (hd : 1 ≤ d) {o nq : Nat} {vb sz lv nm vm_ nu vu : Int} {rw_ : Bool} {ro va : Value} (ho2 : 2 ≤ o) (ho : h[o]? = some (PO vb 0 nq sz lv nm vm_ rw_ ro va nu vu)) : pgV xt d 96 [.ref o, .long a, .long b] h (fun x h' => x = .long (quoF a b).2 ∧ h' = h.set o (PO vb (quoF a b).1 nq sz lv nm vm_ rw_ ro va nu vu)) := by
  have h0 : (Int64.ofInt 0).toInt = 0 := by decide
  have hm1 : (Int64.ofInt (-1)).toInt = -1 := by decide
  have h1_ : (Int64.ofInt 1).toInt = 1 := by decide
  have hmx : (Int64.ofInt 9223372036854775807).toInt = 9223372036854775807 := by decide
  have hmn : (Int64.ofInt (-9223372036854775808)).toInt = -9223372036854775808 := by decide
  have r1 := l_rng a
  have r2 := l_rng b
  refine x_enter pm_X5_quotient (L0 := [(0, .ref o), (1, .long a), (3, .long b)]) rfl (Nat.le_of_ble_eq_true rfl) (by omega) ?_
  refine me1 (pc' := 1) (L' := [(0, .ref o), (1, .long a), (3, .long b)]) (S' := [.long b]) dm_X5_quotient_0 rfl rfl rfl rfl ?_
  refine me0 (pc' := 2) (S' := [.long (Int64.ofInt 0), .long b]) dm_X5_quotient_1 rfl rfl rfl rfl ?_
  refine y_lne (x := b) (y := Int64.ofInt 0) (t := 13) (pc1 := 3) (pc' := 6) dm_X5_quotient_2 rfl dm_X5_quotient_3 rfl rfl (fun hb1 => ?_) (fun hb1 => ?_)
  · have hb1i : ¬ (b).toInt = (Int64.ofInt 0).toInt := fun z => hb1 (Int64.toInt_inj.mp z)
    refine me1 (pc' := 14) (L' := [(0, .ref o), (1, .long a), (3, .long b)]) (S' := [.long a]) dm_X5_quotient_13 rfl rfl rfl rfl ?_
    refine me3 (pc' := 17) (S' := [.long (Int64.ofInt (-9223372036854775808)), .long a]) dm_X5_quotient_14 rfl rfl rfl rfl ?_
    refine y_lne (x := a) (y := Int64.ofInt (-9223372036854775808)) (t := 37) (pc1 := 18) (pc' := 21) dm_X5_quotient_17 rfl dm_X5_quotient_18 rfl rfl (fun hb2 => ?_) (fun hb2 => ?_)
    · have hb2i : ¬ (a).toInt = (Int64.ofInt (-9223372036854775808)).toInt := fun z => hb2 (Int64.toInt_inj.mp z)
      refine me1 (pc' := 38) (L' := [(0, .ref o), (1, .long a), (3, .long b)]) (S' := [.long a]) dm_X5_quotient_37 rfl rfl rfl rfl ?_
      refine me1 (pc' := 39) (L' := [(0, .ref o), (1, .long a), (3, .long b)]) (S' := [.long b, .long a]) dm_X5_quotient_38 rfl rfl rfl rfl ?_
      refine y_ldiv (x := a) (y := b) dm_X5_quotient_39 (pc' := 40) rfl (fun z => by have hz9 := congrArg Int64.toInt z; have e9 : (0 : Int64).toInt = 0 := rfl; omega) ?_
      refine me1 (pc' := 42) (L' := [(5, .long (a / b)), (0, .ref o), (1, .long a), (3, .long b)]) (S' := []) dm_X5_quotient_40 rfl rfl rfl rfl ?_
      refine me1 (pc' := 44) (L' := [(5, .long (a / b)), (0, .ref o), (1, .long a), (3, .long b)]) (S' := [.long (a / b)]) dm_X5_quotient_42 rfl rfl rfl rfl ?_
      refine me1 (pc' := 45) (L' := [(5, .long (a / b)), (0, .ref o), (1, .long a), (3, .long b)]) (S' := [.long b, .long (a / b)]) dm_X5_quotient_44 rfl rfl rfl rfl ?_
      refine me0 (pc' := 46) (S' := [.long ((a / b) * b)]) dm_X5_quotient_45 rfl rfl rfl rfl ?_
      refine me1 (pc' := 47) (L' := [(5, .long (a / b)), (0, .ref o), (1, .long a), (3, .long b)]) (S' := [.long a, .long ((a / b) * b)]) dm_X5_quotient_46 rfl rfl rfl rfl ?_
      refine y_leq (x := (a / b) * b) (y := a) (t := 83) (pc1 := 48) (pc' := 51) dm_X5_quotient_47 rfl dm_X5_quotient_48 rfl rfl (fun hb3 => ?_) (fun hb3 => ?_)
      · have hb3i := congrArg Int64.toInt hb3
        refine me1 (pc' := 85) (L' := [(5, .long (a / b)), (0, .ref o), (1, .long a), (3, .long b)]) (S' := [.long (a / b)]) dm_X5_quotient_83 rfl rfl rfl rfl ?_
        refine y_ret (r := some (.long (a / b))) dm_X5_quotient_85 rfl rfl rfl ?_
        refine ⟨_, rfl, ?_⟩
        have hdm := l_dm (x := a) (y := b) (by omega)
        have hdv := l_div2 (x := a) (y := b) (by omega)
        have hq : qotI a.toInt b.toInt = a.toInt.tdiv b.toInt := by unfold qotI; generalize a.toInt.tmod b.toInt = t at *; rw [if_neg (by omega)]
        have hz : quoF a b = (0, a / b) := by unfold quoF; rw [if_neg (by omega), if_neg (by omega), hq, ← hdv, Int64.ofInt_toInt]
        rw [hz]; exact ⟨rfl, (hl_self ho).symm⟩
      · have hb3i : ¬ ((a / b) * b).toInt = (a).toInt := fun z => hb3 (Int64.toInt_inj.mp z)
        refine me1 (pc' := 52) (L' := [(5, .long (a / b)), (0, .ref o), (1, .long a), (3, .long b)]) (S' := [.long a]) dm_X5_quotient_51 rfl rfl rfl rfl ?_
        refine me0 (pc' := 53) (S' := [.long (Int64.ofInt 0), .long a]) dm_X5_quotient_52 rfl rfl rfl rfl ?_
        refine y_lge (x := a) (y := Int64.ofInt 0) (t := 61) (pc1 := 54) (pc' := 57) dm_X5_quotient_53 rfl dm_X5_quotient_54 rfl rfl (fun hb4 => ?_) (fun hb4 => ?_)
        · refine me0 (pc' := 62) (S' := [ii 0]) dm_X5_quotient_61 rfl rfl rfl rfl ?_
          refine me1 (pc' := 63) (L' := [(5, .long (a / b)), (0, .ref o), (1, .long a), (3, .long b)]) (S' := [.long b, ii 0]) dm_X5_quotient_62 rfl rfl rfl rfl ?_
          refine me0 (pc' := 64) (S' := [.long (Int64.ofInt 0), .long b, ii 0]) dm_X5_quotient_63 rfl rfl rfl rfl ?_
          refine y_lge (x := b) (y := Int64.ofInt 0) (t := 72) (pc1 := 65) (pc' := 68) dm_X5_quotient_64 rfl dm_X5_quotient_65 rfl rfl (fun hb5 => ?_) (fun hb5 => ?_)
          · refine me0 (pc' := 73) (S' := [ii 0, ii 0]) dm_X5_quotient_72 rfl rfl rfl rfl ?_
            refine y_2eq (a := 0) (b := 0) (t := 83) (pc' := 76) dm_X5_quotient_73 rfl rfl (by omega) (fun hb6 => ?_) (fun hb6 => ?_)
            · refine me1 (pc' := 85) (L' := [(5, .long (a / b)), (0, .ref o), (1, .long a), (3, .long b)]) (S' := [.long (a / b)]) dm_X5_quotient_83 rfl rfl rfl rfl ?_
              refine y_ret (r := some (.long (a / b))) dm_X5_quotient_85 rfl rfl rfl ?_
              refine ⟨_, rfl, ?_⟩
              have hdm := l_dm (x := a) (y := b) (by omega)
              have hdv := l_div2 (x := a) (y := b) (by omega)
              have hq : qotI a.toInt b.toInt = a.toInt.tdiv b.toInt := by unfold qotI; generalize a.toInt.tmod b.toInt = t at *; rw [if_neg (by omega)]
              have hz : quoF a b = (0, a / b) := by unfold quoF; rw [if_neg (by omega), if_neg (by omega), hq, ← hdv, Int64.ofInt_toInt]
              rw [hz]; exact ⟨rfl, (hl_self ho).symm⟩
            · refine me1 (pc' := 78) (L' := [(5, .long (a / b)), (0, .ref o), (1, .long a), (3, .long b)]) (S' := [.long (a / b)]) dm_X5_quotient_76 rfl rfl rfl rfl ?_
              refine me0 (pc' := 79) (S' := [.long (Int64.ofInt 1), .long (a / b)]) dm_X5_quotient_78 rfl rfl rfl rfl ?_
              refine me0 (pc' := 80) (S' := [.long ((a / b) - (Int64.ofInt 1))]) dm_X5_quotient_79 rfl rfl rfl rfl ?_
              refine me2 (pc' := 85) (S' := [.long ((a / b) - (Int64.ofInt 1))]) dm_X5_quotient_80 rfl rfl rfl ?_
              refine y_ret (r := some (.long ((a / b) - (Int64.ofInt 1)))) dm_X5_quotient_85 rfl rfl rfl ?_
              refine ⟨_, rfl, ?_⟩
              have hdm := l_dm (x := a) (y := b) (by omega)
              have hdv := l_div2 (x := a) (y := b) (by omega)
              have hq : qotI a.toInt b.toInt = a.toInt.tdiv b.toInt - 1 := by unfold qotI; generalize a.toInt.tmod b.toInt = t at *; rw [if_pos (by omega)]
              have hz : quoF a b = (0, (a / b) - (Int64.ofInt 1)) := by unfold quoF; rw [if_neg (by omega), if_neg (by omega), hq, ← hdv, l_sub, h1_]
              rw [hz]; exact ⟨rfl, (hl_self ho).symm⟩
          · refine me0 (pc' := 69) (S' := [ii 1, ii 0]) dm_X5_quotient_68 rfl rfl rfl rfl ?_
            refine me2 (pc' := 73) (S' := [ii 1, ii 0]) dm_X5_quotient_69 rfl rfl rfl ?_
            refine y_2eq (a := 0) (b := 1) (t := 83) (pc' := 76) dm_X5_quotient_73 rfl rfl (by omega) (fun hb7 => ?_) (fun hb7 => ?_)
            · refine me1 (pc' := 85) (L' := [(5, .long (a / b)), (0, .ref o), (1, .long a), (3, .long b)]) (S' := [.long (a / b)]) dm_X5_quotient_83 rfl rfl rfl rfl ?_
              refine y_ret (r := some (.long (a / b))) dm_X5_quotient_85 rfl rfl rfl ?_
              refine ⟨_, rfl, ?_⟩
              have hdm := l_dm (x := a) (y := b) (by omega)
              have hdv := l_div2 (x := a) (y := b) (by omega)
              have hq : qotI a.toInt b.toInt = a.toInt.tdiv b.toInt := by unfold qotI; generalize a.toInt.tmod b.toInt = t at *; rw [if_neg (by omega)]
              have hz : quoF a b = (0, a / b) := by unfold quoF; rw [if_neg (by omega), if_neg (by omega), hq, ← hdv, Int64.ofInt_toInt]
              rw [hz]; exact ⟨rfl, (hl_self ho).symm⟩
            · refine me1 (pc' := 78) (L' := [(5, .long (a / b)), (0, .ref o), (1, .long a), (3, .long b)]) (S' := [.long (a / b)]) dm_X5_quotient_76 rfl rfl rfl rfl ?_
              refine me0 (pc' := 79) (S' := [.long (Int64.ofInt 1), .long (a / b)]) dm_X5_quotient_78 rfl rfl rfl rfl ?_
              refine me0 (pc' := 80) (S' := [.long ((a / b) - (Int64.ofInt 1))]) dm_X5_quotient_79 rfl rfl rfl rfl ?_
              refine me2 (pc' := 85) (S' := [.long ((a / b) - (Int64.ofInt 1))]) dm_X5_quotient_80 rfl rfl rfl ?_
              refine y_ret (r := some (.long ((a / b) - (Int64.ofInt 1)))) dm_X5_quotient_85 rfl rfl rfl ?_
              refine ⟨_, rfl, ?_⟩
              have hdm := l_dm (x := a) (y := b) (by omega)
              have hdv := l_div2 (x := a) (y := b) (by omega)
              have hq : qotI a.toInt b.toInt = a.toInt.tdiv b.toInt - 1 := by unfold qotI; generalize a.toInt.tmod b.toInt = t at *; rw [if_pos (by omega)]
              have hz : quoF a b = (0, (a / b) - (Int64.ofInt 1)) := by unfold quoF; rw [if_neg (by omega), if_neg (by omega), hq, ← hdv, l_sub, h1_]
              rw [hz]; exact ⟨rfl, (hl_self ho).symm⟩
        · refine me0 (pc' := 58) (S' := [ii 1]) dm_X5_quotient_57 rfl rfl rfl rfl ?_
          refine me2 (pc' := 62) (S' := [ii 1]) dm_X5_quotient_58 rfl rfl rfl ?_
          refine me1 (pc' := 63) (L' := [(5, .long (a / b)), (0, .ref o), (1, .long a), (3, .long b)]) (S' := [.long b, ii 1]) dm_X5_quotient_62 rfl rfl rfl rfl ?_
          refine me0 (pc' := 64) (S' := [.long (Int64.ofInt 0), .long b, ii 1]) dm_X5_quotient_63 rfl rfl rfl rfl ?_
          refine y_lge (x := b) (y := Int64.ofInt 0) (t := 72) (pc1 := 65) (pc' := 68) dm_X5_quotient_64 rfl dm_X5_quotient_65 rfl rfl (fun hb8 => ?_) (fun hb8 => ?_)
          · refine me0 (pc' := 73) (S' := [ii 0, ii 1]) dm_X5_quotient_72 rfl rfl rfl rfl ?_
            refine y_2eq (a := 1) (b := 0) (t := 83) (pc' := 76) dm_X5_quotient_73 rfl rfl (by omega) (fun hb9 => ?_) (fun hb9 => ?_)
            · refine me1 (pc' := 85) (L' := [(5, .long (a / b)), (0, .ref o), (1, .long a), (3, .long b)]) (S' := [.long (a / b)]) dm_X5_quotient_83 rfl rfl rfl rfl ?_
              refine y_ret (r := some (.long (a / b))) dm_X5_quotient_85 rfl rfl rfl ?_
              refine ⟨_, rfl, ?_⟩
              have hdm := l_dm (x := a) (y := b) (by omega)
              have hdv := l_div2 (x := a) (y := b) (by omega)
              have hq : qotI a.toInt b.toInt = a.toInt.tdiv b.toInt := by unfold qotI; generalize a.toInt.tmod b.toInt = t at *; rw [if_neg (by omega)]
              have hz : quoF a b = (0, a / b) := by unfold quoF; rw [if_neg (by omega), if_neg (by omega), hq, ← hdv, Int64.ofInt_toInt]
              rw [hz]; exact ⟨rfl, (hl_self ho).symm⟩
            · refine me1 (pc' := 78) (L' := [(5, .long (a / b)), (0, .ref o), (1, .long a), (3, .long b)]) (S' := [.long (a / b)]) dm_X5_quotient_76 rfl rfl rfl rfl ?_
              refine me0 (pc' := 79) (S' := [.long (Int64.ofInt 1), .long (a / b)]) dm_X5_quotient_78 rfl rfl rfl rfl ?_
              refine me0 (pc' := 80) (S' := [.long ((a / b) - (Int64.ofInt 1))]) dm_X5_quotient_79 rfl rfl rfl rfl ?_
              refine me2 (pc' := 85) (S' := [.long ((a / b) - (Int64.ofInt 1))]) dm_X5_quotient_80 rfl rfl rfl ?_
              refine y_ret (r := some (.long ((a / b) - (Int64.ofInt 1)))) dm_X5_quotient_85 rfl rfl rfl ?_
              refine ⟨_, rfl, ?_⟩
              have hdm := l_dm (x := a) (y := b) (by omega)
              have hdv := l_div2 (x := a) (y := b) (by omega)
              have hq : qotI a.toInt b.toInt = a.toInt.tdiv b.toInt - 1 := by unfold qotI; generalize a.toInt.tmod b.toInt = t at *; rw [if_pos (by omega)]
              have hz : quoF a b = (0, (a / b) - (Int64.ofInt 1)) := by unfold quoF; rw [if_neg (by omega), if_neg (by omega), hq, ← hdv, l_sub, h1_]
              rw [hz]; exact ⟨rfl, (hl_self ho).symm⟩
          · refine me0 (pc' := 69) (S' := [ii 1, ii 1]) dm_X5_quotient_68 rfl rfl rfl rfl ?_
            refine me2 (pc' := 73) (S' := [ii 1, ii 1]) dm_X5_quotient_69 rfl rfl rfl ?_
            refine y_2eq (a := 1) (b := 1) (t := 83) (pc' := 76) dm_X5_quotient_73 rfl rfl (by omega) (fun hb10 => ?_) (fun hb10 => ?_)
            · refine me1 (pc' := 85) (L' := [(5, .long (a / b)), (0, .ref o), (1, .long a), (3, .long b)]) (S' := [.long (a / b)]) dm_X5_quotient_83 rfl rfl rfl rfl ?_
              refine y_ret (r := some (.long (a / b))) dm_X5_quotient_85 rfl rfl rfl ?_
              refine ⟨_, rfl, ?_⟩
              have hdm := l_dm (x := a) (y := b) (by omega)
              have hdv := l_div2 (x := a) (y := b) (by omega)
              have hq : qotI a.toInt b.toInt = a.toInt.tdiv b.toInt := by unfold qotI; generalize a.toInt.tmod b.toInt = t at *; rw [if_neg (by omega)]
              have hz : quoF a b = (0, a / b) := by unfold quoF; rw [if_neg (by omega), if_neg (by omega), hq, ← hdv, Int64.ofInt_toInt]
              rw [hz]; exact ⟨rfl, (hl_self ho).symm⟩
            · refine me1 (pc' := 78) (L' := [(5, .long (a / b)), (0, .ref o), (1, .long a), (3, .long b)]) (S' := [.long (a / b)]) dm_X5_quotient_76 rfl rfl rfl rfl ?_
              refine me0 (pc' := 79) (S' := [.long (Int64.ofInt 1), .long (a / b)]) dm_X5_quotient_78 rfl rfl rfl rfl ?_
              refine me0 (pc' := 80) (S' := [.long ((a / b) - (Int64.ofInt 1))]) dm_X5_quotient_79 rfl rfl rfl rfl ?_
              refine me2 (pc' := 85) (S' := [.long ((a / b) - (Int64.ofInt 1))]) dm_X5_quotient_80 rfl rfl rfl ?_
              refine y_ret (r := some (.long ((a / b) - (Int64.ofInt 1)))) dm_X5_quotient_85 rfl rfl rfl ?_
              refine ⟨_, rfl, ?_⟩
              have hdm := l_dm (x := a) (y := b) (by omega)
              have hdv := l_div2 (x := a) (y := b) (by omega)
              have hq : qotI a.toInt b.toInt = a.toInt.tdiv b.toInt - 1 := by unfold qotI; generalize a.toInt.tmod b.toInt = t at *; rw [if_pos (by omega)]
              have hz : quoF a b = (0, (a / b) - (Int64.ofInt 1)) := by unfold quoF; rw [if_neg (by omega), if_neg (by omega), hq, ← hdv, l_sub, h1_]
              rw [hz]; exact ⟨rfl, (hl_self ho).symm⟩
    · have hb2i := congrArg Int64.toInt hb2
      refine me1 (pc' := 22) (L' := [(0, .ref o), (1, .long a), (3, .long b)]) (S' := [.long b]) dm_X5_quotient_21 rfl rfl rfl rfl ?_
      refine me3 (pc' := 25) (S' := [.long (Int64.ofInt (-1)), .long b]) dm_X5_quotient_22 rfl rfl rfl rfl ?_
      refine y_lne (x := b) (y := Int64.ofInt (-1)) (t := 37) (pc1 := 26) (pc' := 29) dm_X5_quotient_25 rfl dm_X5_quotient_26 rfl rfl (fun hb11 => ?_) (fun hb11 => ?_)
      · have hb11i : ¬ (b).toInt = (Int64.ofInt (-1)).toInt := fun z => hb11 (Int64.toInt_inj.mp z)
        refine me1 (pc' := 38) (L' := [(0, .ref o), (1, .long a), (3, .long b)]) (S' := [.long a]) dm_X5_quotient_37 rfl rfl rfl rfl ?_
        refine me1 (pc' := 39) (L' := [(0, .ref o), (1, .long a), (3, .long b)]) (S' := [.long b, .long a]) dm_X5_quotient_38 rfl rfl rfl rfl ?_
        refine y_ldiv (x := a) (y := b) dm_X5_quotient_39 (pc' := 40) rfl (fun z => by have hz9 := congrArg Int64.toInt z; have e9 : (0 : Int64).toInt = 0 := rfl; omega) ?_
        refine me1 (pc' := 42) (L' := [(5, .long (a / b)), (0, .ref o), (1, .long a), (3, .long b)]) (S' := []) dm_X5_quotient_40 rfl rfl rfl rfl ?_
        refine me1 (pc' := 44) (L' := [(5, .long (a / b)), (0, .ref o), (1, .long a), (3, .long b)]) (S' := [.long (a / b)]) dm_X5_quotient_42 rfl rfl rfl rfl ?_
        refine me1 (pc' := 45) (L' := [(5, .long (a / b)), (0, .ref o), (1, .long a), (3, .long b)]) (S' := [.long b, .long (a / b)]) dm_X5_quotient_44 rfl rfl rfl rfl ?_
        refine me0 (pc' := 46) (S' := [.long ((a / b) * b)]) dm_X5_quotient_45 rfl rfl rfl rfl ?_
        refine me1 (pc' := 47) (L' := [(5, .long (a / b)), (0, .ref o), (1, .long a), (3, .long b)]) (S' := [.long a, .long ((a / b) * b)]) dm_X5_quotient_46 rfl rfl rfl rfl ?_
        refine y_leq (x := (a / b) * b) (y := a) (t := 83) (pc1 := 48) (pc' := 51) dm_X5_quotient_47 rfl dm_X5_quotient_48 rfl rfl (fun hb12 => ?_) (fun hb12 => ?_)
        · have hb12i := congrArg Int64.toInt hb12
          refine me1 (pc' := 85) (L' := [(5, .long (a / b)), (0, .ref o), (1, .long a), (3, .long b)]) (S' := [.long (a / b)]) dm_X5_quotient_83 rfl rfl rfl rfl ?_
          refine y_ret (r := some (.long (a / b))) dm_X5_quotient_85 rfl rfl rfl ?_
          refine ⟨_, rfl, ?_⟩
          have hdm := l_dm (x := a) (y := b) (by omega)
          have hdv := l_div2 (x := a) (y := b) (by omega)
          have hq : qotI a.toInt b.toInt = a.toInt.tdiv b.toInt := by unfold qotI; generalize a.toInt.tmod b.toInt = t at *; rw [if_neg (by omega)]
          have hz : quoF a b = (0, a / b) := by unfold quoF; rw [if_neg (by omega), if_neg (by omega), hq, ← hdv, Int64.ofInt_toInt]
          rw [hz]; exact ⟨rfl, (hl_self ho).symm⟩
        · have hb12i : ¬ ((a / b) * b).toInt = (a).toInt := fun z => hb12 (Int64.toInt_inj.mp z)
          refine me1 (pc' := 52) (L' := [(5, .long (a / b)), (0, .ref o), (1, .long a), (3, .long b)]) (S' := [.long a]) dm_X5_quotient_51 rfl rfl rfl rfl ?_
          refine me0 (pc' := 53) (S' := [.long (Int64.ofInt 0), .long a]) dm_X5_quotient_52 rfl rfl rfl rfl ?_
          refine y_lge (x := a) (y := Int64.ofInt 0) (t := 61) (pc1 := 54) (pc' := 57) dm_X5_quotient_53 rfl dm_X5_quotient_54 rfl rfl (fun hb13 => ?_) (fun hb13 => ?_)
          · refine me0 (pc' := 62) (S' := [ii 0]) dm_X5_quotient_61 rfl rfl rfl rfl ?_
            refine me1 (pc' := 63) (L' := [(5, .long (a / b)), (0, .ref o), (1, .long a), (3, .long b)]) (S' := [.long b, ii 0]) dm_X5_quotient_62 rfl rfl rfl rfl ?_
            refine me0 (pc' := 64) (S' := [.long (Int64.ofInt 0), .long b, ii 0]) dm_X5_quotient_63 rfl rfl rfl rfl ?_
            refine y_lge (x := b) (y := Int64.ofInt 0) (t := 72) (pc1 := 65) (pc' := 68) dm_X5_quotient_64 rfl dm_X5_quotient_65 rfl rfl (fun hb14 => ?_) (fun hb14 => ?_)
            · refine me0 (pc' := 73) (S' := [ii 0, ii 0]) dm_X5_quotient_72 rfl rfl rfl rfl ?_
              refine y_2eq (a := 0) (b := 0) (t := 83) (pc' := 76) dm_X5_quotient_73 rfl rfl (by omega) (fun hb15 => ?_) (fun hb15 => ?_)
              · refine me1 (pc' := 85) (L' := [(5, .long (a / b)), (0, .ref o), (1, .long a), (3, .long b)]) (S' := [.long (a / b)]) dm_X5_quotient_83 rfl rfl rfl rfl ?_
                refine y_ret (r := some (.long (a / b))) dm_X5_quotient_85 rfl rfl rfl ?_
                refine ⟨_, rfl, ?_⟩
                have hdm := l_dm (x := a) (y := b) (by omega)
                have hdv := l_div2 (x := a) (y := b) (by omega)
                have hq : qotI a.toInt b.toInt = a.toInt.tdiv b.toInt := by unfold qotI; generalize a.toInt.tmod b.toInt = t at *; rw [if_neg (by omega)]
                have hz : quoF a b = (0, a / b) := by unfold quoF; rw [if_neg (by omega), if_neg (by omega), hq, ← hdv, Int64.ofInt_toInt]
                rw [hz]; exact ⟨rfl, (hl_self ho).symm⟩
              · refine me1 (pc' := 78) (L' := [(5, .long (a / b)), (0, .ref o), (1, .long a), (3, .long b)]) (S' := [.long (a / b)]) dm_X5_quotient_76 rfl rfl rfl rfl ?_
                refine me0 (pc' := 79) (S' := [.long (Int64.ofInt 1), .long (a / b)]) dm_X5_quotient_78 rfl rfl rfl rfl ?_
                refine me0 (pc' := 80) (S' := [.long ((a / b) - (Int64.ofInt 1))]) dm_X5_quotient_79 rfl rfl rfl rfl ?_
                refine me2 (pc' := 85) (S' := [.long ((a / b) - (Int64.ofInt 1))]) dm_X5_quotient_80 rfl rfl rfl ?_
                refine y_ret (r := some (.long ((a / b) - (Int64.ofInt 1)))) dm_X5_quotient_85 rfl rfl rfl ?_
                refine ⟨_, rfl, ?_⟩
                have hdm := l_dm (x := a) (y := b) (by omega)
                have hdv := l_div2 (x := a) (y := b) (by omega)
                have hq : qotI a.toInt b.toInt = a.toInt.tdiv b.toInt - 1 := by unfold qotI; generalize a.toInt.tmod b.toInt = t at *; rw [if_pos (by omega)]
                have hz : quoF a b = (0, (a / b) - (Int64.ofInt 1)) := by unfold quoF; rw [if_neg (by omega), if_neg (by omega), hq, ← hdv, l_sub, h1_]
                rw [hz]; exact ⟨rfl, (hl_self ho).symm⟩
            · refine me0 (pc' := 69) (S' := [ii 1, ii 0]) dm_X5_quotient_68 rfl rfl rfl rfl ?_
              refine me2 (pc' := 73) (S' := [ii 1, ii 0]) dm_X5_quotient_69 rfl rfl rfl ?_
              refine y_2eq (a := 0) (b := 1) (t := 83) (pc' := 76) dm_X5_quotient_73 rfl rfl (by omega) (fun hb16 => ?_) (fun hb16 => ?_)
              · refine me1 (pc' := 85) (L' := [(5, .long (a / b)), (0, .ref o), (1, .long a), (3, .long b)]) (S' := [.long (a / b)]) dm_X5_quotient_83 rfl rfl rfl rfl ?_
                refine y_ret (r := some (.long (a / b))) dm_X5_quotient_85 rfl rfl rfl ?_
                refine ⟨_, rfl, ?_⟩
                have hdm := l_dm (x := a) (y := b) (by omega)
                have hdv := l_div2 (x := a) (y := b) (by omega)
                have hq : qotI a.toInt b.toInt = a.toInt.tdiv b.toInt := by unfold qotI; generalize a.toInt.tmod b.toInt = t at *; rw [if_neg (by omega)]
                have hz : quoF a b = (0, a / b) := by unfold quoF; rw [if_neg (by omega), if_neg (by omega), hq, ← hdv, Int64.ofInt_toInt]
                rw [hz]; exact ⟨rfl, (hl_self ho).symm⟩
              · refine me1 (pc' := 78) (L' := [(5, .long (a / b)), (0, .ref o), (1, .long a), (3, .long b)]) (S' := [.long (a / b)]) dm_X5_quotient_76 rfl rfl rfl rfl ?_
                refine me0 (pc' := 79) (S' := [.long (Int64.ofInt 1), .long (a / b)]) dm_X5_quotient_78 rfl rfl rfl rfl ?_
                refine me0 (pc' := 80) (S' := [.long ((a / b) - (Int64.ofInt 1))]) dm_X5_quotient_79 rfl rfl rfl rfl ?_
                refine me2 (pc' := 85) (S' := [.long ((a / b) - (Int64.ofInt 1))]) dm_X5_quotient_80 rfl rfl rfl ?_
                refine y_ret (r := some (.long ((a / b) - (Int64.ofInt 1)))) dm_X5_quotient_85 rfl rfl rfl ?_
                refine ⟨_, rfl, ?_⟩
                have hdm := l_dm (x := a) (y := b) (by omega)
                have hdv := l_div2 (x := a) (y := b) (by omega)
                have hq : qotI a.toInt b.toInt = a.toInt.tdiv b.toInt - 1 := by unfold qotI; generalize a.toInt.tmod b.toInt = t at *; rw [if_pos (by omega)]
                have hz : quoF a b = (0, (a / b) - (Int64.ofInt 1)) := by unfold quoF; rw [if_neg (by omega), if_neg (by omega), hq, ← hdv, l_sub, h1_]
                rw [hz]; exact ⟨rfl, (hl_self ho).symm⟩
          · refine me0 (pc' := 58) (S' := [ii 1]) dm_X5_quotient_57 rfl rfl rfl rfl ?_
            refine me2 (pc' := 62) (S' := [ii 1]) dm_X5_quotient_58 rfl rfl rfl ?_
            refine me1 (pc' := 63) (L' := [(5, .long (a / b)), (0, .ref o), (1, .long a), (3, .long b)]) (S' := [.long b, ii 1]) dm_X5_quotient_62 rfl rfl rfl rfl ?_
            refine me0 (pc' := 64) (S' := [.long (Int64.ofInt 0), .long b, ii 1]) dm_X5_quotient_63 rfl rfl rfl rfl ?_
            refine y_lge (x := b) (y := Int64.ofInt 0) (t := 72) (pc1 := 65) (pc' := 68) dm_X5_quotient_64 rfl dm_X5_quotient_65 rfl rfl (fun hb17 => ?_) (fun hb17 => ?_)
            · refine me0 (pc' := 73) (S' := [ii 0, ii 1]) dm_X5_quotient_72 rfl rfl rfl rfl ?_
              refine y_2eq (a := 1) (b := 0) (t := 83) (pc' := 76) dm_X5_quotient_73 rfl rfl (by omega) (fun hb18 => ?_) (fun hb18 => ?_)
              · refine me1 (pc' := 85) (L' := [(5, .long (a / b)), (0, .ref o), (1, .long a), (3, .long b)]) (S' := [.long (a / b)]) dm_X5_quotient_83 rfl rfl rfl rfl ?_
                refine y_ret (r := some (.long (a / b))) dm_X5_quotient_85 rfl rfl rfl ?_
                refine ⟨_, rfl, ?_⟩
                have hdm := l_dm (x := a) (y := b) (by omega)
                have hdv := l_div2 (x := a) (y := b) (by omega)
                have hq : qotI a.toInt b.toInt = a.toInt.tdiv b.toInt := by unfold qotI; generalize a.toInt.tmod b.toInt = t at *; rw [if_neg (by omega)]
                have hz : quoF a b = (0, a / b) := by unfold quoF; rw [if_neg (by omega), if_neg (by omega), hq, ← hdv, Int64.ofInt_toInt]
                rw [hz]; exact ⟨rfl, (hl_self ho).symm⟩
              · refine me1 (pc' := 78) (L' := [(5, .long (a / b)), (0, .ref o), (1, .long a), (3, .long b)]) (S' := [.long (a / b)]) dm_X5_quotient_76 rfl rfl rfl rfl ?_
                refine me0 (pc' := 79) (S' := [.long (Int64.ofInt 1), .long (a / b)]) dm_X5_quotient_78 rfl rfl rfl rfl ?_
                refine me0 (pc' := 80) (S' := [.long ((a / b) - (Int64.ofInt 1))]) dm_X5_quotient_79 rfl rfl rfl rfl ?_
                refine me2 (pc' := 85) (S' := [.long ((a / b) - (Int64.ofInt 1))]) dm_X5_quotient_80 rfl rfl rfl ?_
                refine y_ret (r := some (.long ((a / b) - (Int64.ofInt 1)))) dm_X5_quotient_85 rfl rfl rfl ?_
                refine ⟨_, rfl, ?_⟩
                have hdm := l_dm (x := a) (y := b) (by omega)
                have hdv := l_div2 (x := a) (y := b) (by omega)
                have hq : qotI a.toInt b.toInt = a.toInt.tdiv b.toInt - 1 := by unfold qotI; generalize a.toInt.tmod b.toInt = t at *; rw [if_pos (by omega)]
                have hz : quoF a b = (0, (a / b) - (Int64.ofInt 1)) := by unfold quoF; rw [if_neg (by omega), if_neg (by omega), hq, ← hdv, l_sub, h1_]
                rw [hz]; exact ⟨rfl, (hl_self ho).symm⟩
            · refine me0 (pc' := 69) (S' := [ii 1, ii 1]) dm_X5_quotient_68 rfl rfl rfl rfl ?_
              refine me2 (pc' := 73) (S' := [ii 1, ii 1]) dm_X5_quotient_69 rfl rfl rfl ?_
              refine y_2eq (a := 1) (b := 1) (t := 83) (pc' := 76) dm_X5_quotient_73 rfl rfl (by omega) (fun hb19 => ?_) (fun hb19 => ?_)
              · refine me1 (pc' := 85) (L' := [(5, .long (a / b)), (0, .ref o), (1, .long a), (3, .long b)]) (S' := [.long (a / b)]) dm_X5_quotient_83 rfl rfl rfl rfl ?_
                refine y_ret (r := some (.long (a / b))) dm_X5_quotient_85 rfl rfl rfl ?_
                refine ⟨_, rfl, ?_⟩
                have hdm := l_dm (x := a) (y := b) (by omega)
                have hdv := l_div2 (x := a) (y := b) (by omega)
                have hq : qotI a.toInt b.toInt = a.toInt.tdiv b.toInt := by unfold qotI; generalize a.toInt.tmod b.toInt = t at *; rw [if_neg (by omega)]
                have hz : quoF a b = (0, a / b) := by unfold quoF; rw [if_neg (by omega), if_neg (by omega), hq, ← hdv, Int64.ofInt_toInt]
                rw [hz]; exact ⟨rfl, (hl_self ho).symm⟩
              · refine me1 (pc' := 78) (L' := [(5, .long (a / b)), (0, .ref o), (1, .long a), (3, .long b)]) (S' := [.long (a / b)]) dm_X5_quotient_76 rfl rfl rfl rfl ?_
                refine me0 (pc' := 79) (S' := [.long (Int64.ofInt 1), .long (a / b)]) dm_X5_quotient_78 rfl rfl rfl rfl ?_
                refine me0 (pc' := 80) (S' := [.long ((a / b) - (Int64.ofInt 1))]) dm_X5_quotient_79 rfl rfl rfl rfl ?_
                refine me2 (pc' := 85) (S' := [.long ((a / b) - (Int64.ofInt 1))]) dm_X5_quotient_80 rfl rfl rfl ?_
                refine y_ret (r := some (.long ((a / b) - (Int64.ofInt 1)))) dm_X5_quotient_85 rfl rfl rfl ?_
                refine ⟨_, rfl, ?_⟩
                have hdm := l_dm (x := a) (y := b) (by omega)
                have hdv := l_div2 (x := a) (y := b) (by omega)
                have hq : qotI a.toInt b.toInt = a.toInt.tdiv b.toInt - 1 := by unfold qotI; generalize a.toInt.tmod b.toInt = t at *; rw [if_pos (by omega)]
                have hz : quoF a b = (0, (a / b) - (Int64.ofInt 1)) := by unfold quoF; rw [if_neg (by omega), if_neg (by omega), hq, ← hdv, l_sub, h1_]
                rw [hz]; exact ⟨rfl, (hl_self ho).symm⟩
      · have hb11i := congrArg Int64.toInt hb11
        refine me1 (pc' := 30) (L' := [(0, .ref o), (1, .long a), (3, .long b)]) (S' := [.ref o]) dm_X5_quotient_29 rfl rfl rfl rfl ?_
        refine me0 (pc' := 32) (S' := [ii 6, .ref o]) dm_X5_quotient_30 rfl rfl rfl rfl ?_
        refine me3 (pc' := 35) (S' := []) (h1 := (h).set o (cO 5 [ii vb, ii 6, .ref nq, ii sz, ii lv, ii nm, ii vm_, zz rw_, ro, va, ii nu, ii vu])) dm_X5_quotient_32 (g_put (fs' := [ii vb, ii 6, .ref nq, ii sz, ii lv, ii nm, ii vm_, zz rw_, ro, va, ii nu, ii vu]) ho rfl rfl rfl (by simp) rfl (by decide) (fun z => by cases z) (by omega)) rfl rfl rfl ?_
        refine me0 (pc' := 36) (S' := [.long (Int64.ofInt 0)]) dm_X5_quotient_35 rfl rfl rfl rfl ?_
        refine y_ret (r := some (.long (Int64.ofInt 0))) dm_X5_quotient_36 rfl rfl rfl ?_
        refine ⟨_, rfl, ?_⟩
        have hz : quoF a b = (6, Int64.ofInt 0) := by unfold quoF; rw [if_neg (by omega), if_pos (by omega)]
        rw [hz]; exact ⟨rfl, rfl⟩
  · have hb1i := congrArg Int64.toInt hb1
    refine me1 (pc' := 7) (L' := [(0, .ref o), (1, .long a), (3, .long b)]) (S' := [.ref o]) dm_X5_quotient_6 rfl rfl rfl rfl ?_
    refine me0 (pc' := 8) (S' := [ii 5, .ref o]) dm_X5_quotient_7 rfl rfl rfl rfl ?_
    refine me3 (pc' := 11) (S' := []) (h1 := (h).set o (cO 5 [ii vb, ii 5, .ref nq, ii sz, ii lv, ii nm, ii vm_, zz rw_, ro, va, ii nu, ii vu])) dm_X5_quotient_8 (g_put (fs' := [ii vb, ii 5, .ref nq, ii sz, ii lv, ii nm, ii vm_, zz rw_, ro, va, ii nu, ii vu]) ho rfl rfl rfl (by simp) rfl (by decide) (fun z => by cases z) (by omega)) rfl rfl rfl ?_
    refine me0 (pc' := 12) (S' := [.long (Int64.ofInt 0)]) dm_X5_quotient_11 rfl rfl rfl rfl ?_
    refine y_ret (r := some (.long (Int64.ofInt 0))) dm_X5_quotient_12 rfl rfl rfl ?_
    refine ⟨_, rfl, ?_⟩
    have hz : quoF a b = (5, Int64.ofInt 0) := by unfold quoF; rw [if_pos (by omega)]
    rw [hz]; exact ⟨rfl, rfl⟩
set_option maxRecDepth 20000 in
theorem pm_X5_rest : mj_mmof pg_ms 97 = some ((⟨"ArrayCalculator$Paired", "rest", "(JJ)J"⟩, prog_7_method_12_code, 7, (Option.some Jvm.ClassFile.FieldType.long)), 5, false, mj_dec prog_7_method_12_code) := rfl
theorem dm_X5_rest_0 : mj_dec prog_7_method_12_code 0 = some (.lload_n 3, 1) := by decide +kernel
theorem dm_X5_rest_1 : mj_dec prog_7_method_12_code 1 = some (.lconst 0, 1) := by decide +kernel
theorem dm_X5_rest_2 : mj_dec prog_7_method_12_code 2 = some (.lcmp, 1) := by decide +kernel
theorem dm_X5_rest_3 : mj_dec prog_7_method_12_code 3 = some (.ifCond .ne 10, 3) := by decide +kernel
theorem dm_X5_rest_6 : mj_dec prog_7_method_12_code 6 = some (.aload_n 0, 1) := by decide +kernel
theorem dm_X5_rest_7 : mj_dec prog_7_method_12_code 7 = some (.iconst 5, 1) := by decide +kernel
theorem dm_X5_rest_8 : mj_dec prog_7_method_12_code 8 = some (.putfield 25, 3) := by decide +kernel
theorem dm_X5_rest_11 : mj_dec prog_7_method_12_code 11 = some (.lconst 0, 1) := by decide +kernel
theorem dm_X5_rest_12 : mj_dec prog_7_method_12_code 12 = some (.lreturn, 1) := by decide +kernel
theorem dm_X5_rest_13 : mj_dec prog_7_method_12_code 13 = some (.lload_n 1, 1) := by decide +kernel
theorem dm_X5_rest_14 : mj_dec prog_7_method_12_code 14 = some (.lload_n 3, 1) := by decide +kernel
theorem dm_X5_rest_15 : mj_dec prog_7_method_12_code 15 = some (.lrem, 1) := by decide +kernel
theorem dm_X5_rest_16 : mj_dec prog_7_method_12_code 16 = some (.lstore 5, 2) := by decide +kernel
theorem dm_X5_rest_18 : mj_dec prog_7_method_12_code 18 = some (.lload 5, 2) := by decide +kernel
theorem dm_X5_rest_20 : mj_dec prog_7_method_12_code 20 = some (.lconst 0, 1) := by decide +kernel
theorem dm_X5_rest_21 : mj_dec prog_7_method_12_code 21 = some (.lcmp, 1) := by decide +kernel
theorem dm_X5_rest_22 : mj_dec prog_7_method_12_code 22 = some (.ifCond .eq 36, 3) := by decide +kernel
theorem dm_X5_rest_25 : mj_dec prog_7_method_12_code 25 = some (.lload 5, 2) := by decide +kernel
theorem dm_X5_rest_27 : mj_dec prog_7_method_12_code 27 = some (.lconst 0, 1) := by decide +kernel
theorem dm_X5_rest_28 : mj_dec prog_7_method_12_code 28 = some (.lcmp, 1) := by decide +kernel
theorem dm_X5_rest_29 : mj_dec prog_7_method_12_code 29 = some (.ifCond .ge 7, 3) := by decide +kernel
theorem dm_X5_rest_32 : mj_dec prog_7_method_12_code 32 = some (.iconst 1, 1) := by decide +kernel
theorem dm_X5_rest_33 : mj_dec prog_7_method_12_code 33 = some (.goto 4, 3) := by decide +kernel
theorem dm_X5_rest_36 : mj_dec prog_7_method_12_code 36 = some (.iconst 0, 1) := by decide +kernel
theorem dm_X5_rest_37 : mj_dec prog_7_method_12_code 37 = some (.lload_n 3, 1) := by decide +kernel
theorem dm_X5_rest_38 : mj_dec prog_7_method_12_code 38 = some (.lconst 0, 1) := by decide +kernel
theorem dm_X5_rest_39 : mj_dec prog_7_method_12_code 39 = some (.lcmp, 1) := by decide +kernel
theorem dm_X5_rest_40 : mj_dec prog_7_method_12_code 40 = some (.ifCond .ge 7, 3) := by decide +kernel
theorem dm_X5_rest_43 : mj_dec prog_7_method_12_code 43 = some (.iconst 1, 1) := by decide +kernel
theorem dm_X5_rest_44 : mj_dec prog_7_method_12_code 44 = some (.goto 4, 3) := by decide +kernel
theorem dm_X5_rest_47 : mj_dec prog_7_method_12_code 47 = some (.iconst 0, 1) := by decide +kernel
theorem dm_X5_rest_48 : mj_dec prog_7_method_12_code 48 = some (.if_icmp .eq 10, 3) := by decide +kernel
theorem dm_X5_rest_51 : mj_dec prog_7_method_12_code 51 = some (.lload 5, 2) := by decide +kernel
theorem dm_X5_rest_53 : mj_dec prog_7_method_12_code 53 = some (.lload_n 3, 1) := by decide +kernel
theorem dm_X5_rest_54 : mj_dec prog_7_method_12_code 54 = some (.ladd, 1) := by decide +kernel
theorem dm_X5_rest_55 : mj_dec prog_7_method_12_code 55 = some (.goto 5, 3) := by decide +kernel
theorem dm_X5_rest_58 : mj_dec prog_7_method_12_code 58 = some (.lload 5, 2) := by decide +kernel
theorem dm_X5_rest_60 : mj_dec prog_7_method_12_code 60 = some (.lreturn, 1) := by decide +kernel
theorem p_rest {xt : mj_X} {d : Nat} {h : mj_H} {a b : Int64} (hd : 1 ≤ d) {o nq : Nat} {vb sz lv nm vm_ nu vu : Int} {rw_ : Bool} {ro va : Value} (ho2 : 2 ≤ o) (ho : h[o]? = some (PO vb 0 nq sz lv nm vm_ rw_ ro va nu vu)) : pgV xt d 97 [.ref o, .long a, .long b] h (fun x h' => x = .long (rstF a b).2 ∧ h' = h.set o (PO vb (rstF a b).1 nq sz lv nm vm_ rw_ ro va nu vu)) := by
  have h0 : (Int64.ofInt 0).toInt = 0 := by decide
  have hm1 : (Int64.ofInt (-1)).toInt = -1 := by decide
  have h1_ : (Int64.ofInt 1).toInt = 1 := by decide
  have hmx : (Int64.ofInt 9223372036854775807).toInt = 9223372036854775807 := by decide
  have hmn : (Int64.ofInt (-9223372036854775808)).toInt = -9223372036854775808 := by decide
  have r1 := l_rng a
  have r2 := l_rng b
  refine x_enter pm_X5_rest (L0 := [(0, .ref o), (1, .long a), (3, .long b)]) rfl (Nat.le_of_ble_eq_true rfl) (by omega) ?_
  refine me1 (pc' := 1) (L' := [(0, .ref o), (1, .long a), (3, .long b)]) (S' := [.long b]) dm_X5_rest_0 rfl rfl rfl rfl ?_
  refine me0 (pc' := 2) (S' := [.long (Int64.ofInt 0), .long b]) dm_X5_rest_1 rfl rfl rfl rfl ?_
  refine y_lne (x := b) (y := Int64.ofInt 0) (t := 13) (pc1 := 3) (pc' := 6) dm_X5_rest_2 rfl dm_X5_rest_3 rfl rfl (fun hb1 => ?_) (fun hb1 => ?_)
  · have hb1i : ¬ (b).toInt = (Int64.ofInt 0).toInt := fun z => hb1 (Int64.toInt_inj.mp z)
    refine me1 (pc' := 14) (L' := [(0, .ref o), (1, .long a), (3, .long b)]) (S' := [.long a]) dm_X5_rest_13 rfl rfl rfl rfl ?_
    refine me1 (pc' := 15) (L' := [(0, .ref o), (1, .long a), (3, .long b)]) (S' := [.long b, .long a]) dm_X5_rest_14 rfl rfl rfl rfl ?_
    refine y_lrem (x := a) (y := b) dm_X5_rest_15 (pc' := 16) rfl (fun z => by have hz9 := congrArg Int64.toInt z; have e9 : (0 : Int64).toInt = 0 := rfl; omega) ?_
    refine me1 (pc' := 18) (L' := [(5, .long (a - a / b * b)), (0, .ref o), (1, .long a), (3, .long b)]) (S' := []) dm_X5_rest_16 rfl rfl rfl rfl ?_
    refine me1 (pc' := 20) (L' := [(5, .long (a - a / b * b)), (0, .ref o), (1, .long a), (3, .long b)]) (S' := [.long (a - a / b * b)]) dm_X5_rest_18 rfl rfl rfl rfl ?_
    refine me0 (pc' := 21) (S' := [.long (Int64.ofInt 0), .long (a - a / b * b)]) dm_X5_rest_20 rfl rfl rfl rfl ?_
    refine y_leq (x := a - a / b * b) (y := Int64.ofInt 0) (t := 58) (pc1 := 22) (pc' := 25) dm_X5_rest_21 rfl dm_X5_rest_22 rfl rfl (fun hb2 => ?_) (fun hb2 => ?_)
    · have hb2i := congrArg Int64.toInt hb2
      refine me1 (pc' := 60) (L' := [(5, .long (a - a / b * b)), (0, .ref o), (1, .long a), (3, .long b)]) (S' := [.long (a - a / b * b)]) dm_X5_rest_58 rfl rfl rfl rfl ?_
      refine y_ret (r := some (.long (a - a / b * b))) dm_X5_rest_60 rfl rfl rfl ?_
      refine ⟨_, rfl, ?_⟩
      have hrm := l_rm (x := a) (y := b)
      have hq : rstI a.toInt b.toInt = a.toInt.tmod b.toInt := by unfold rstI; generalize a.toInt.tmod b.toInt = t at *; rw [if_neg (by omega)]
      have hz : rstF a b = (0, a - a / b * b) := by unfold rstF; rw [if_neg (by omega), hq, ← hrm, Int64.ofInt_toInt]
      rw [hz]; exact ⟨rfl, (hl_self ho).symm⟩
    · have hb2i : ¬ (a - a / b * b).toInt = (Int64.ofInt 0).toInt := fun z => hb2 (Int64.toInt_inj.mp z)
      refine me1 (pc' := 27) (L' := [(5, .long (a - a / b * b)), (0, .ref o), (1, .long a), (3, .long b)]) (S' := [.long (a - a / b * b)]) dm_X5_rest_25 rfl rfl rfl rfl ?_
      refine me0 (pc' := 28) (S' := [.long (Int64.ofInt 0), .long (a - a / b * b)]) dm_X5_rest_27 rfl rfl rfl rfl ?_
      refine y_lge (x := a - a / b * b) (y := Int64.ofInt 0) (t := 36) (pc1 := 29) (pc' := 32) dm_X5_rest_28 rfl dm_X5_rest_29 rfl rfl (fun hb3 => ?_) (fun hb3 => ?_)
      · refine me0 (pc' := 37) (S' := [ii 0]) dm_X5_rest_36 rfl rfl rfl rfl ?_
        refine me1 (pc' := 38) (L' := [(5, .long (a - a / b * b)), (0, .ref o), (1, .long a), (3, .long b)]) (S' := [.long b, ii 0]) dm_X5_rest_37 rfl rfl rfl rfl ?_
        refine me0 (pc' := 39) (S' := [.long (Int64.ofInt 0), .long b, ii 0]) dm_X5_rest_38 rfl rfl rfl rfl ?_
        refine y_lge (x := b) (y := Int64.ofInt 0) (t := 47) (pc1 := 40) (pc' := 43) dm_X5_rest_39 rfl dm_X5_rest_40 rfl rfl (fun hb4 => ?_) (fun hb4 => ?_)
        · refine me0 (pc' := 48) (S' := [ii 0, ii 0]) dm_X5_rest_47 rfl rfl rfl rfl ?_
          refine y_2eq (a := 0) (b := 0) (t := 58) (pc' := 51) dm_X5_rest_48 rfl rfl (by omega) (fun hb5 => ?_) (fun hb5 => ?_)
          · refine me1 (pc' := 60) (L' := [(5, .long (a - a / b * b)), (0, .ref o), (1, .long a), (3, .long b)]) (S' := [.long (a - a / b * b)]) dm_X5_rest_58 rfl rfl rfl rfl ?_
            refine y_ret (r := some (.long (a - a / b * b))) dm_X5_rest_60 rfl rfl rfl ?_
            refine ⟨_, rfl, ?_⟩
            have hrm := l_rm (x := a) (y := b)
            have hq : rstI a.toInt b.toInt = a.toInt.tmod b.toInt := by unfold rstI; generalize a.toInt.tmod b.toInt = t at *; rw [if_neg (by omega)]
            have hz : rstF a b = (0, a - a / b * b) := by unfold rstF; rw [if_neg (by omega), hq, ← hrm, Int64.ofInt_toInt]
            rw [hz]; exact ⟨rfl, (hl_self ho).symm⟩
          · refine me1 (pc' := 53) (L' := [(5, .long (a - a / b * b)), (0, .ref o), (1, .long a), (3, .long b)]) (S' := [.long (a - a / b * b)]) dm_X5_rest_51 rfl rfl rfl rfl ?_
            refine me1 (pc' := 54) (L' := [(5, .long (a - a / b * b)), (0, .ref o), (1, .long a), (3, .long b)]) (S' := [.long b, .long (a - a / b * b)]) dm_X5_rest_53 rfl rfl rfl rfl ?_
            refine me0 (pc' := 55) (S' := [.long ((a - a / b * b) + b)]) dm_X5_rest_54 rfl rfl rfl rfl ?_
            refine me2 (pc' := 60) (S' := [.long ((a - a / b * b) + b)]) dm_X5_rest_55 rfl rfl rfl ?_
            refine y_ret (r := some (.long ((a - a / b * b) + b))) dm_X5_rest_60 rfl rfl rfl ?_
            refine ⟨_, rfl, ?_⟩
            have hrm := l_rm (x := a) (y := b)
            have hq : rstI a.toInt b.toInt = a.toInt.tmod b.toInt + b.toInt := by unfold rstI; generalize a.toInt.tmod b.toInt = t at *; rw [if_pos (by omega)]
            have hz : rstF a b = (0, (a - a / b * b) + b) := by unfold rstF; rw [if_neg (by omega), hq, ← hrm, l_add]
            rw [hz]; exact ⟨rfl, (hl_self ho).symm⟩
        · refine me0 (pc' := 44) (S' := [ii 1, ii 0]) dm_X5_rest_43 rfl rfl rfl rfl ?_
          refine me2 (pc' := 48) (S' := [ii 1, ii 0]) dm_X5_rest_44 rfl rfl rfl ?_
          refine y_2eq (a := 0) (b := 1) (t := 58) (pc' := 51) dm_X5_rest_48 rfl rfl (by omega) (fun hb6 => ?_) (fun hb6 => ?_)
          · refine me1 (pc' := 60) (L' := [(5, .long (a - a / b * b)), (0, .ref o), (1, .long a), (3, .long b)]) (S' := [.long (a - a / b * b)]) dm_X5_rest_58 rfl rfl rfl rfl ?_
            refine y_ret (r := some (.long (a - a / b * b))) dm_X5_rest_60 rfl rfl rfl ?_
            refine ⟨_, rfl, ?_⟩
            have hrm := l_rm (x := a) (y := b)
            have hq : rstI a.toInt b.toInt = a.toInt.tmod b.toInt := by unfold rstI; generalize a.toInt.tmod b.toInt = t at *; rw [if_neg (by omega)]
            have hz : rstF a b = (0, a - a / b * b) := by unfold rstF; rw [if_neg (by omega), hq, ← hrm, Int64.ofInt_toInt]
            rw [hz]; exact ⟨rfl, (hl_self ho).symm⟩
          · refine me1 (pc' := 53) (L' := [(5, .long (a - a / b * b)), (0, .ref o), (1, .long a), (3, .long b)]) (S' := [.long (a - a / b * b)]) dm_X5_rest_51 rfl rfl rfl rfl ?_
            refine me1 (pc' := 54) (L' := [(5, .long (a - a / b * b)), (0, .ref o), (1, .long a), (3, .long b)]) (S' := [.long b, .long (a - a / b * b)]) dm_X5_rest_53 rfl rfl rfl rfl ?_
            refine me0 (pc' := 55) (S' := [.long ((a - a / b * b) + b)]) dm_X5_rest_54 rfl rfl rfl rfl ?_
            refine me2 (pc' := 60) (S' := [.long ((a - a / b * b) + b)]) dm_X5_rest_55 rfl rfl rfl ?_
            refine y_ret (r := some (.long ((a - a / b * b) + b))) dm_X5_rest_60 rfl rfl rfl ?_
            refine ⟨_, rfl, ?_⟩
            have hrm := l_rm (x := a) (y := b)
            have hq : rstI a.toInt b.toInt = a.toInt.tmod b.toInt + b.toInt := by unfold rstI; generalize a.toInt.tmod b.toInt = t at *; rw [if_pos (by omega)]
            have hz : rstF a b = (0, (a - a / b * b) + b) := by unfold rstF; rw [if_neg (by omega), hq, ← hrm, l_add]
            rw [hz]; exact ⟨rfl, (hl_self ho).symm⟩
      · refine me0 (pc' := 33) (S' := [ii 1]) dm_X5_rest_32 rfl rfl rfl rfl ?_
        refine me2 (pc' := 37) (S' := [ii 1]) dm_X5_rest_33 rfl rfl rfl ?_
        refine me1 (pc' := 38) (L' := [(5, .long (a - a / b * b)), (0, .ref o), (1, .long a), (3, .long b)]) (S' := [.long b, ii 1]) dm_X5_rest_37 rfl rfl rfl rfl ?_
        refine me0 (pc' := 39) (S' := [.long (Int64.ofInt 0), .long b, ii 1]) dm_X5_rest_38 rfl rfl rfl rfl ?_
        refine y_lge (x := b) (y := Int64.ofInt 0) (t := 47) (pc1 := 40) (pc' := 43) dm_X5_rest_39 rfl dm_X5_rest_40 rfl rfl (fun hb7 => ?_) (fun hb7 => ?_)
        · refine me0 (pc' := 48) (S' := [ii 0, ii 1]) dm_X5_rest_47 rfl rfl rfl rfl ?_
          refine y_2eq (a := 1) (b := 0) (t := 58) (pc' := 51) dm_X5_rest_48 rfl rfl (by omega) (fun hb8 => ?_) (fun hb8 => ?_)
          · refine me1 (pc' := 60) (L' := [(5, .long (a - a / b * b)), (0, .ref o), (1, .long a), (3, .long b)]) (S' := [.long (a - a / b * b)]) dm_X5_rest_58 rfl rfl rfl rfl ?_
            refine y_ret (r := some (.long (a - a / b * b))) dm_X5_rest_60 rfl rfl rfl ?_
            refine ⟨_, rfl, ?_⟩
            have hrm := l_rm (x := a) (y := b)
            have hq : rstI a.toInt b.toInt = a.toInt.tmod b.toInt := by unfold rstI; generalize a.toInt.tmod b.toInt = t at *; rw [if_neg (by omega)]
            have hz : rstF a b = (0, a - a / b * b) := by unfold rstF; rw [if_neg (by omega), hq, ← hrm, Int64.ofInt_toInt]
            rw [hz]; exact ⟨rfl, (hl_self ho).symm⟩
          · refine me1 (pc' := 53) (L' := [(5, .long (a - a / b * b)), (0, .ref o), (1, .long a), (3, .long b)]) (S' := [.long (a - a / b * b)]) dm_X5_rest_51 rfl rfl rfl rfl ?_
            refine me1 (pc' := 54) (L' := [(5, .long (a - a / b * b)), (0, .ref o), (1, .long a), (3, .long b)]) (S' := [.long b, .long (a - a / b * b)]) dm_X5_rest_53 rfl rfl rfl rfl ?_
            refine me0 (pc' := 55) (S' := [.long ((a - a / b * b) + b)]) dm_X5_rest_54 rfl rfl rfl rfl ?_
            refine me2 (pc' := 60) (S' := [.long ((a - a / b * b) + b)]) dm_X5_rest_55 rfl rfl rfl ?_
            refine y_ret (r := some (.long ((a - a / b * b) + b))) dm_X5_rest_60 rfl rfl rfl ?_
            refine ⟨_, rfl, ?_⟩
            have hrm := l_rm (x := a) (y := b)
            have hq : rstI a.toInt b.toInt = a.toInt.tmod b.toInt + b.toInt := by unfold rstI; generalize a.toInt.tmod b.toInt = t at *; rw [if_pos (by omega)]
            have hz : rstF a b = (0, (a - a / b * b) + b) := by unfold rstF; rw [if_neg (by omega), hq, ← hrm, l_add]
            rw [hz]; exact ⟨rfl, (hl_self ho).symm⟩
        · refine me0 (pc' := 44) (S' := [ii 1, ii 1]) dm_X5_rest_43 rfl rfl rfl rfl ?_
          refine me2 (pc' := 48) (S' := [ii 1, ii 1]) dm_X5_rest_44 rfl rfl rfl ?_
          refine y_2eq (a := 1) (b := 1) (t := 58) (pc' := 51) dm_X5_rest_48 rfl rfl (by omega) (fun hb9 => ?_) (fun hb9 => ?_)
          · refine me1 (pc' := 60) (L' := [(5, .long (a - a / b * b)), (0, .ref o), (1, .long a), (3, .long b)]) (S' := [.long (a - a / b * b)]) dm_X5_rest_58 rfl rfl rfl rfl ?_
            refine y_ret (r := some (.long (a - a / b * b))) dm_X5_rest_60 rfl rfl rfl ?_
            refine ⟨_, rfl, ?_⟩
            have hrm := l_rm (x := a) (y := b)
            have hq : rstI a.toInt b.toInt = a.toInt.tmod b.toInt := by unfold rstI; generalize a.toInt.tmod b.toInt = t at *; rw [if_neg (by omega)]
            have hz : rstF a b = (0, a - a / b * b) := by unfold rstF; rw [if_neg (by omega), hq, ← hrm, Int64.ofInt_toInt]
            rw [hz]; exact ⟨rfl, (hl_self ho).symm⟩
          · refine me1 (pc' := 53) (L' := [(5, .long (a - a / b * b)), (0, .ref o), (1, .long a), (3, .long b)]) (S' := [.long (a - a / b * b)]) dm_X5_rest_51 rfl rfl rfl rfl ?_
            refine me1 (pc' := 54) (L' := [(5, .long (a - a / b * b)), (0, .ref o), (1, .long a), (3, .long b)]) (S' := [.long b, .long (a - a / b * b)]) dm_X5_rest_53 rfl rfl rfl rfl ?_
            refine me0 (pc' := 55) (S' := [.long ((a - a / b * b) + b)]) dm_X5_rest_54 rfl rfl rfl rfl ?_
            refine me2 (pc' := 60) (S' := [.long ((a - a / b * b) + b)]) dm_X5_rest_55 rfl rfl rfl ?_
            refine y_ret (r := some (.long ((a - a / b * b) + b))) dm_X5_rest_60 rfl rfl rfl ?_
            refine ⟨_, rfl, ?_⟩
            have hrm := l_rm (x := a) (y := b)
            have hq : rstI a.toInt b.toInt = a.toInt.tmod b.toInt + b.toInt := by unfold rstI; generalize a.toInt.tmod b.toInt = t at *; rw [if_pos (by omega)]
            have hz : rstF a b = (0, (a - a / b * b) + b) := by unfold rstF; rw [if_neg (by omega), hq, ← hrm, l_add]
            rw [hz]; exact ⟨rfl, (hl_self ho).symm⟩
  · have hb1i := congrArg Int64.toInt hb1
    refine me1 (pc' := 7) (L' := [(0, .ref o), (1, .long a), (3, .long b)]) (S' := [.ref o]) dm_X5_rest_6 rfl rfl rfl rfl ?_
    refine me0 (pc' := 8) (S' := [ii 5, .ref o]) dm_X5_rest_7 rfl rfl rfl rfl ?_
    refine me3 (pc' := 11) (S' := []) (h1 := (h).set o (cO 5 [ii vb, ii 5, .ref nq, ii sz, ii lv, ii nm, ii vm_, zz rw_, ro, va, ii nu, ii vu])) dm_X5_rest_8 (g_put (fs' := [ii vb, ii 5, .ref nq, ii sz, ii lv, ii nm, ii vm_, zz rw_, ro, va, ii nu, ii vu]) ho rfl rfl rfl (by simp) rfl (by decide) (fun z => by cases z) (by omega)) rfl rfl rfl ?_
    refine me0 (pc' := 12) (S' := [.long (Int64.ofInt 0)]) dm_X5_rest_11 rfl rfl rfl rfl ?_
    refine y_ret (r := some (.long (Int64.ofInt 0))) dm_X5_rest_12 rfl rfl rfl ?_
    refine ⟨_, rfl, ?_⟩
    have hz : rstF a b = (5, Int64.ofInt 0) := by unfold rstF; rw [if_pos (by omega)]
    rw [hz]; exact ⟨rfl, rfl⟩
set_option maxRecDepth 20000 in
theorem pm_X5_asked : mj_mmof pg_ms 89 = some ((⟨"ArrayCalculator$Paired", "asked", "(LArrayCalculator$Value;LArrayCalculator$Value;)I"⟩, prog_7_method_9_code, 2, (Option.some Jvm.ClassFile.FieldType.int)), 5, false, mj_dec prog_7_method_9_code) := rfl
theorem dm_X5_asked_0 : mj_dec prog_7_method_9_code 0 = some (.aload_n 0, 1) := by decide +kernel
theorem dm_X5_asked_1 : mj_dec prog_7_method_9_code 1 = some (.invokevirtual 79, 3) := by decide +kernel
theorem dm_X5_asked_4 : mj_dec prog_7_method_9_code 4 = some (.ifCond .ne 10, 3) := by decide +kernel
theorem dm_X5_asked_7 : mj_dec prog_7_method_9_code 7 = some (.aload_n 1, 1) := by decide +kernel
theorem dm_X5_asked_8 : mj_dec prog_7_method_9_code 8 = some (.invokevirtual 79, 3) := by decide +kernel
theorem dm_X5_asked_11 : mj_dec prog_7_method_9_code 11 = some (.ifCond .eq 5, 3) := by decide +kernel
theorem dm_X5_asked_14 : mj_dec prog_7_method_9_code 14 = some (.iconst 0, 1) := by decide +kernel
theorem dm_X5_asked_15 : mj_dec prog_7_method_9_code 15 = some (.ireturn, 1) := by decide +kernel
theorem dm_X5_asked_16 : mj_dec prog_7_method_9_code 16 = some (.aload_n 0, 1) := by decide +kernel
theorem dm_X5_asked_17 : mj_dec prog_7_method_9_code 17 = some (.invokevirtual 137, 3) := by decide +kernel
theorem dm_X5_asked_20 : mj_dec prog_7_method_9_code 20 = some (.aload_n 1, 1) := by decide +kernel
theorem dm_X5_asked_21 : mj_dec prog_7_method_9_code 21 = some (.invokevirtual 137, 3) := by decide +kernel
theorem dm_X5_asked_24 : mj_dec prog_7_method_9_code 24 = some (.if_icmp .eq 5, 3) := by decide +kernel
theorem dm_X5_asked_27 : mj_dec prog_7_method_9_code 27 = some (.iconst 3, 1) := by decide +kernel
theorem dm_X5_asked_28 : mj_dec prog_7_method_9_code 28 = some (.ireturn, 1) := by decide +kernel
theorem dm_X5_asked_29 : mj_dec prog_7_method_9_code 29 = some (.aload_n 0, 1) := by decide +kernel
theorem dm_X5_asked_30 : mj_dec prog_7_method_9_code 30 = some (.getfield 59, 3) := by decide +kernel
theorem dm_X5_asked_33 : mj_dec prog_7_method_9_code 33 = some (.aload_n 1, 1) := by decide +kernel
theorem dm_X5_asked_34 : mj_dec prog_7_method_9_code 34 = some (.getfield 59, 3) := by decide +kernel
theorem dm_X5_asked_37 : mj_dec prog_7_method_9_code 37 = some (.if_icmp .ne 14, 3) := by decide +kernel
theorem dm_X5_asked_40 : mj_dec prog_7_method_9_code 40 = some (.aload_n 0, 1) := by decide +kernel
theorem dm_X5_asked_41 : mj_dec prog_7_method_9_code 41 = some (.getfield 122, 3) := by decide +kernel
theorem dm_X5_asked_44 : mj_dec prog_7_method_9_code 44 = some (.aload_n 1, 1) := by decide +kernel
theorem dm_X5_asked_45 : mj_dec prog_7_method_9_code 45 = some (.getfield 122, 3) := by decide +kernel
theorem dm_X5_asked_48 : mj_dec prog_7_method_9_code 48 = some (.if_icmp .eq 7, 3) := by decide +kernel
theorem dm_X5_asked_51 : mj_dec prog_7_method_9_code 51 = some (.iconst 4, 1) := by decide +kernel
theorem dm_X5_asked_52 : mj_dec prog_7_method_9_code 52 = some (.goto 4, 3) := by decide +kernel
theorem dm_X5_asked_55 : mj_dec prog_7_method_9_code 55 = some (.iconst 0, 1) := by decide +kernel
theorem dm_X5_asked_56 : mj_dec prog_7_method_9_code 56 = some (.ireturn, 1) := by decide +kernel
theorem p_asked {xt : mj_X} {d e p : Nat} {A : Nat → Prop} {h : mj_H} {v : VV} {q : Nat} {w : VV} (hd : 2 ≤ d) (hv : cv A h (e + 1) p v) (hw : cv A h (e + 1) q w) : pgP xt d 89 [.ref p, .ref q] h (ii (askF v w)) := by
  have hcv := vw1_c hv.1
  have hcw := vw1_c hw.1
  obtain ⟨row, fr, vals, hp, hp2, hpA, hvk, hvm, hvc, hvs, hvl⟩ := cv_val hv
  obtain ⟨row2, fr2, vals2, hq, hq2, hqA, hwk, hwm, hwc, hws, hwl⟩ := cv_val hw
  refine x_enter pm_X5_asked (L0 := [(0, .ref p), (1, .ref q)]) rfl (Nat.le_of_ble_eq_true rfl) (by omega) ?_
  refine me1 (pc' := 1) (L' := [(0, .ref p), (1, .ref q)]) (S' := [.ref p]) dm_X5_asked_0 rfl rfl rfl rfl ?_
  refine x_cp (pc' := 4) (v := zz (decide (vk v ≤ 1))) (rest := []) dm_X5_asked_1 rfl (g_inv (As := []) (S := []) hp rfl rfl rfl (by omega)) rfl rfl rfl (c_isOne (by omega) hv) ?_
  refine y_zne (c := decide (vk v ≤ 1)) (t := 14) (pc' := 7) dm_X5_asked_4 rfl rfl (fun hb1 => ?_) (fun hb1 => ?_)
  · replace hb1 := dT hb1
    refine me0 (pc' := 15) (S' := [ii 0]) dm_X5_asked_14 rfl rfl rfl rfl ?_
    refine y_ret (r := some (ii 0)) dm_X5_asked_15 rfl rfl rfl ?_
    refine ⟨congrArg some (n_ii ?_), rfl⟩
    unfold askF
    first | (rw [if_pos (by omega)]) | (rw [if_neg (by omega), if_neg (by omega), if_neg (by omega)])
  · replace hb1 := dF hb1
    refine me1 (pc' := 8) (L' := [(0, .ref p), (1, .ref q)]) (S' := [.ref q]) dm_X5_asked_7 rfl rfl rfl rfl ?_
    refine x_cp (pc' := 11) (v := zz (decide (vk w ≤ 1))) (rest := []) dm_X5_asked_8 rfl (g_inv (As := []) (S := []) hq rfl rfl rfl (by omega)) rfl rfl rfl (c_isOne (by omega) hw) ?_
    refine y_zeq (c := decide (vk w ≤ 1)) (t := 16) (pc' := 14) dm_X5_asked_11 rfl rfl (fun hb2 => ?_) (fun hb2 => ?_)
    · replace hb2 := dF hb2
      refine me1 (pc' := 17) (L' := [(0, .ref p), (1, .ref q)]) (S' := [.ref p]) dm_X5_asked_16 rfl rfl rfl rfl ?_
      refine x_cp (pc' := 20) (v := zz (decide (2 ≤ vk v ∧ vk v ≤ 5))) (rest := []) dm_X5_asked_17 rfl (g_inv (As := []) (S := []) hp rfl rfl rfl (by omega)) rfl rfl rfl (c_isRow (by omega) hv) ?_
      refine me1 (pc' := 21) (L' := [(0, .ref p), (1, .ref q)]) (S' := [.ref q, zz (decide (2 ≤ vk v ∧ vk v ≤ 5))]) dm_X5_asked_20 rfl rfl rfl rfl ?_
      refine x_cp (pc' := 24) (v := zz (decide (2 ≤ vk w ∧ vk w ≤ 5))) (rest := [zz (decide (2 ≤ vk v ∧ vk v ≤ 5))]) dm_X5_asked_21 rfl (g_inv (As := []) (S := [zz (decide (2 ≤ vk v ∧ vk v ≤ 5))]) hq rfl rfl rfl (by omega)) rfl rfl rfl (c_isRow (by omega) hw) ?_
      refine y_z2eq (c := decide (2 ≤ vk v ∧ vk v ≤ 5)) (e := decide (2 ≤ vk w ∧ vk w ≤ 5)) (t := 29) (pc' := 27) dm_X5_asked_24 rfl rfl (fun hb3 => ?_) (fun hb3 => ?_)
      · replace hb3 := dEq hb3
        refine me1 (pc' := 30) (L' := [(0, .ref p), (1, .ref q)]) (S' := [.ref p]) dm_X5_asked_29 rfl rfl rfl rfl ?_
        refine me3 (pc' := 33) (S' := [ii (vm v : Int)]) dm_X5_asked_30 (g_get (v := ii (vm v : Int)) hp rfl rfl (by omega)) rfl rfl rfl ?_
        refine me1 (pc' := 34) (L' := [(0, .ref p), (1, .ref q)]) (S' := [.ref q, ii (vm v : Int)]) dm_X5_asked_33 rfl rfl rfl rfl ?_
        refine me3 (pc' := 37) (S' := [ii (vm w : Int), ii (vm v : Int)]) dm_X5_asked_34 (g_get (v := ii (vm w : Int)) hq rfl rfl (by omega)) rfl rfl rfl ?_
        refine y_2ne (a := (vm v : Int)) (b := (vm w : Int)) (t := 51) (pc' := 40) dm_X5_asked_37 rfl rfl (by omega) (fun hb4 => ?_) (fun hb4 => ?_)
        · refine me0 (pc' := 52) (S' := [ii 4]) dm_X5_asked_51 rfl rfl rfl rfl ?_
          refine me2 (pc' := 56) (S' := [ii 4]) dm_X5_asked_52 rfl rfl rfl ?_
          refine y_ret (r := some (ii 4)) dm_X5_asked_56 rfl rfl rfl ?_
          refine ⟨congrArg some (n_ii ?_), rfl⟩
          unfold askF
          rw [if_neg (by omega), if_neg (by omega), if_pos (by omega)]
        · refine me1 (pc' := 41) (L' := [(0, .ref p), (1, .ref q)]) (S' := [.ref p]) dm_X5_asked_40 rfl rfl rfl rfl ?_
          refine me3 (pc' := 44) (S' := [ii (vc v : Int)]) dm_X5_asked_41 (g_get (v := ii (vc v : Int)) hp rfl rfl (by omega)) rfl rfl rfl ?_
          refine me1 (pc' := 45) (L' := [(0, .ref p), (1, .ref q)]) (S' := [.ref q, ii (vc v : Int)]) dm_X5_asked_44 rfl rfl rfl rfl ?_
          refine me3 (pc' := 48) (S' := [ii (vc w : Int), ii (vc v : Int)]) dm_X5_asked_45 (g_get (v := ii (vc w : Int)) hq rfl rfl (by omega)) rfl rfl rfl ?_
          refine y_2eq (a := (vc v : Int)) (b := (vc w : Int)) (t := 55) (pc' := 51) dm_X5_asked_48 rfl rfl (by omega) (fun hb5 => ?_) (fun hb5 => ?_)
          · refine me0 (pc' := 56) (S' := [ii 0]) dm_X5_asked_55 rfl rfl rfl rfl ?_
            refine y_ret (r := some (ii 0)) dm_X5_asked_56 rfl rfl rfl ?_
            refine ⟨congrArg some (n_ii ?_), rfl⟩
            unfold askF
            first | (rw [if_pos (by omega)]) | (rw [if_neg (by omega), if_neg (by omega), if_neg (by omega)])
          · refine me0 (pc' := 52) (S' := [ii 4]) dm_X5_asked_51 rfl rfl rfl rfl ?_
            refine me2 (pc' := 56) (S' := [ii 4]) dm_X5_asked_52 rfl rfl rfl ?_
            refine y_ret (r := some (ii 4)) dm_X5_asked_56 rfl rfl rfl ?_
            refine ⟨congrArg some (n_ii ?_), rfl⟩
            unfold askF
            rw [if_neg (by omega), if_neg (by omega), if_pos (by omega)]
      · replace hb3 := dNe hb3
        refine me0 (pc' := 28) (S' := [ii 3]) dm_X5_asked_27 rfl rfl rfl rfl ?_
        refine y_ret (r := some (ii 3)) dm_X5_asked_28 rfl rfl rfl ?_
        refine ⟨congrArg some (n_ii ?_), rfl⟩
        unfold askF
        rw [if_neg (by omega), if_pos (by omega)]
    · replace hb2 := dT hb2
      refine me0 (pc' := 15) (S' := [ii 0]) dm_X5_asked_14 rfl rfl rfl rfl ?_
      refine y_ret (r := some (ii 0)) dm_X5_asked_15 rfl rfl rfl ?_
      refine ⟨congrArg some (n_ii ?_), rfl⟩
      unfold askF
      first | (rw [if_pos (by omega)]) | (rw [if_neg (by omega), if_neg (by omega), if_neg (by omega)])
