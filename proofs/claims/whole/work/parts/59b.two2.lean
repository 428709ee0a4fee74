theorem askP_le (v w : VV) : askP v w ≤ 5 := by unfold askP; split; omega; split <;> omega
/-- _ of two -/
def dclamp (v w : VV) : Int := max (-(vm w : Int)) (min (vm w : Int) (vn v 0).toInt)
def d_drop (v w : VV) : Nat ⊕ VV := if 2 ≤ vk v then .inl 3 else if vk v = 1 then .inl 5 else s_pick w (fun k => (max (dclamp v w) 0).toNat + k) (vm w - (dclamp v w).natAbs)
theorem lmn_i (x y : Int64) : (lmn x y).toInt = min x.toInt y.toInt := by
  unfold lmn
  by_cases z : y < x
  · rw [if_pos z]; rw [Int64.lt_iff_toInt_lt] at z; omega
  · rw [if_neg z]; rw [Int64.lt_iff_toInt_lt] at z; omega
theorem lmx_i (x y : Int64) : (lmx x y).toInt = max x.toInt y.toInt := by
  unfold lmx
  by_cases z : y < x
  · rw [if_pos z]; rw [Int64.lt_iff_toInt_lt] at z; omega
  · rw [if_neg z]; rw [Int64.lt_iff_toInt_lt] at z; omega
theorem lab_i (x : Int64) (h : -1000 ≤ x.toInt) (h2 : x.toInt ≤ 1000) : (lab x).toInt = ((x.toInt.natAbs : Nat) : Int) := by
  unfold lab
  have e : (0 : Int64).toInt = 0 := rfl
  by_cases z : 0 < x
  · rw [if_pos z]; rw [Int64.lt_iff_toInt_lt, e] at z; omega
  · rw [if_neg z]; rw [Int64.lt_iff_toInt_lt, e] at z
    have e2 : -x = Int64.ofInt (-x.toInt) := by rw [Int64.ofInt_neg, Int64.ofInt_toInt]
    rw [e2, n_toL (by omega) (by omega)]
    omega
/-- $ of two -/
def fshift (v w : VV) : Int := if (vn v 0).toInt < 0 then (vm w : Int) - (((vn v 0).toInt.natAbs : Nat) : Int) else 0
def fsign (v w : VV) (k : Nat) : Int64 := if 0 ≤ (k : Int) + fshift v w ∧ (k : Int) + fshift v w < (vm w : Int) then vnum w ((k : Int) + fshift v w) else Int64.ofInt 32
def d_fit (v w : VV) : Nat ⊕ VV := if 2 ≤ vk v then .inl 3 else if vk v = 1 ∨ (vn v 0).toInt < -120 ∨ 120 < (vn v 0).toInt ∨ ¬ (vk w = 1 ∨ vk w = 3) then .inl 5 else .inr (vrow 3 (vn v 0).toInt.natAbs (fsign v w))
theorem ares_fq {A : Nat → Prop} {h : mj_H} {e a b q : Nat} (n : Nat) (hq : h.length = q) (hl : 2 ≤ h.length) (ha : 1 ≤ a) (hb : 9 ≤ b) : ares A h e (.inl n) a b (.ref q) (h ++ [cVal 8 (Int64.ofInt (n : Int)) 1 0 0 0]) := by
  subst hq
  exact ares_f n hl ha hb
set_option maxRecDepth 20000 in
theorem pm_X9_at : mj_mmof pg_ms 151 = some ((⟨"ArrayCalculator$TwoAct", "at", "(LArrayCalculator$Value;LArrayCalculator$Value;)LArrayCalculator$Value;"⟩, prog_11_method_9_code, 4, (Option.some (Jvm.ClassFile.FieldType.object "ArrayCalculator$Value"))), 9, false, mj_dec prog_11_method_9_code) := rfl
theorem dm_X9_at_0 : mj_dec prog_11_method_9_code 0 = some (.aload_n 1, 1) := by decide +kernel
theorem dm_X9_at_1 : mj_dec prog_11_method_9_code 1 = some (.aload_n 2, 1) := by decide +kernel
theorem dm_X9_at_2 : mj_dec prog_11_method_9_code 2 = some (.invokestatic 188, 3) := by decide +kernel
theorem dm_X9_at_5 : mj_dec prog_11_method_9_code 5 = some (.istore_n 3, 1) := by decide +kernel
theorem dm_X9_at_6 : mj_dec prog_11_method_9_code 6 = some (.iload_n 3, 1) := by decide +kernel
theorem dm_X9_at_7 : mj_dec prog_11_method_9_code 7 = some (.ifCond .eq 8, 3) := by decide +kernel
theorem dm_X9_at_10 : mj_dec prog_11_method_9_code 10 = some (.iload_n 3, 1) := by decide +kernel
theorem dm_X9_at_11 : mj_dec prog_11_method_9_code 11 = some (.invokestatic 81, 3) := by decide +kernel
theorem dm_X9_at_14 : mj_dec prog_11_method_9_code 14 = some (.areturn, 1) := by decide +kernel
theorem dm_X9_at_15 : mj_dec prog_11_method_9_code 15 = some (.aload_n 1, 1) := by decide +kernel
theorem dm_X9_at_16 : mj_dec prog_11_method_9_code 16 = some (.getfield 102, 3) := by decide +kernel
theorem dm_X9_at_19 : mj_dec prog_11_method_9_code 19 = some (.bipush 6, 2) := by decide +kernel
theorem dm_X9_at_21 : mj_dec prog_11_method_9_code 21 = some (.if_icmp .ne 15, 3) := by decide +kernel
theorem dm_X9_at_24 : mj_dec prog_11_method_9_code 24 = some (.aload_n 2, 1) := by decide +kernel
theorem dm_X9_at_25 : mj_dec prog_11_method_9_code 25 = some (.getfield 94, 3) := by decide +kernel
theorem dm_X9_at_28 : mj_dec prog_11_method_9_code 28 = some (.ifCond .ne 8, 3) := by decide +kernel
theorem dm_X9_at_31 : mj_dec prog_11_method_9_code 31 = some (.iconst 4, 1) := by decide +kernel
theorem dm_X9_at_32 : mj_dec prog_11_method_9_code 32 = some (.invokestatic 81, 3) := by decide +kernel
theorem dm_X9_at_35 : mj_dec prog_11_method_9_code 35 = some (.areturn, 1) := by decide +kernel
theorem dm_X9_at_36 : mj_dec prog_11_method_9_code 36 = some (.aload_n 0, 1) := by decide +kernel
theorem dm_X9_at_37 : mj_dec prog_11_method_9_code 37 = some (.aload_n 1, 1) := by decide +kernel
theorem dm_X9_at_38 : mj_dec prog_11_method_9_code 38 = some (.aload_n 2, 1) := by decide +kernel
theorem dm_X9_at_39 : mj_dec prog_11_method_9_code 39 = some (.invokevirtual 192, 3) := by decide +kernel
theorem dm_X9_at_42 : mj_dec prog_11_method_9_code 42 = some (.ifCond .ne 9, 3) := by decide +kernel
theorem dm_X9_at_45 : mj_dec prog_11_method_9_code 45 = some (.bipush 7, 2) := by decide +kernel
theorem dm_X9_at_47 : mj_dec prog_11_method_9_code 47 = some (.invokestatic 81, 3) := by decide +kernel
theorem dm_X9_at_50 : mj_dec prog_11_method_9_code 50 = some (.areturn, 1) := by decide +kernel
theorem dm_X9_at_51 : mj_dec prog_11_method_9_code 51 = some (.aload_n 2, 1) := by decide +kernel
theorem dm_X9_at_52 : mj_dec prog_11_method_9_code 52 = some (.invokevirtual 140, 3) := by decide +kernel
theorem dm_X9_at_55 : mj_dec prog_11_method_9_code 55 = some (.ifCond .eq 16, 3) := by decide +kernel
theorem dm_X9_at_58 : mj_dec prog_11_method_9_code 58 = some (.aload_n 1, 1) := by decide +kernel
theorem dm_X9_at_59 : mj_dec prog_11_method_9_code 59 = some (.aload_n 0, 1) := by decide +kernel
theorem dm_X9_at_60 : mj_dec prog_11_method_9_code 60 = some (.getfield 18, 3) := by decide +kernel
theorem dm_X9_at_63 : mj_dec prog_11_method_9_code 63 = some (.iconst 0, 1) := by decide +kernel
theorem dm_X9_at_64 : mj_dec prog_11_method_9_code 64 = some (.iaload, 1) := by decide +kernel
theorem dm_X9_at_65 : mj_dec prog_11_method_9_code 65 = some (.invokevirtual 120, 3) := by decide +kernel
theorem dm_X9_at_68 : mj_dec prog_11_method_9_code 68 = some (.goto 15, 3) := by decide +kernel
theorem dm_X9_at_71 : mj_dec prog_11_method_9_code 71 = some (.aload_n 1, 1) := by decide +kernel
theorem dm_X9_at_72 : mj_dec prog_11_method_9_code 72 = some (.aload_n 0, 1) := by decide +kernel
theorem dm_X9_at_73 : mj_dec prog_11_method_9_code 73 = some (.getfield 18, 3) := by decide +kernel
theorem dm_X9_at_76 : mj_dec prog_11_method_9_code 76 = some (.aload_n 2, 1) := by decide +kernel
theorem dm_X9_at_77 : mj_dec prog_11_method_9_code 77 = some (.getfield 94, 3) := by decide +kernel
theorem dm_X9_at_80 : mj_dec prog_11_method_9_code 80 = some (.invokevirtual 157, 3) := by decide +kernel
theorem dm_X9_at_83 : mj_dec prog_11_method_9_code 83 = some (.areturn, 1) := by decide +kernel
theorem t_at {xt : mj_X} {d e p q : Nat} {A : Nat → Prop} {h : mj_H} {v w : VV} {f1 : Nat → Value} (hx1 : xt 1 = some (.long, 0, f1)) (hd : 10 ≤ d) (hl : 127 ≤ h.length) (hA : okA A h) (hH : actH h) (hv : cv A h (e + 1) p v) (hw : cv A h (e + 1) q w) (he : e ≤ 20) (hset : vsz (e + 1) v ≤ 1000) (hset2 : vsz (e + 1) w ≤ 1000) : pgV xt d 151 [.ref 26, .ref p, .ref q] h (aact A h (e + 1) (d_at v w) 2 (pcl v (vm w) + 9)) := by
  obtain ⟨-, -, -, -, -, -, -, -, ⟨ft0, h26⟩, -, -, ⟨pf0, h29⟩, ⟨nf0, h30⟩, ⟨uf0, h31⟩⟩ := id hH
  have hcv := vw1_c hv.1
  have hcw := vw1_c hw.1
  obtain ⟨row, fr, vals, hp, hp2, hpA, hvk, hvm, hvc, hvs, hvl⟩ := cv_val hv
  obtain ⟨row2, fr2, vals2, hq, hq2, hqA, hwk, hwm, hwc, hws, hwl⟩ := cv_val hw
  have hpb := hA p hpA
  have hqb := hA q hqA
  have hak := askP_le v w
  refine x_enter pm_X9_at (L0 := [(0, .ref 26), (1, .ref p), (2, .ref q)]) rfl (Nat.le_of_ble_eq_true rfl) (by omega) ?_
  refine me1 (pc' := 1) (L' := [(0, .ref 26), (1, .ref p), (2, .ref q)]) (S' := [.ref p]) dm_X9_at_0 rfl rfl rfl rfl ?_
  refine me1 (pc' := 2) (L' := [(0, .ref 26), (1, .ref p), (2, .ref q)]) (S' := [.ref q, .ref p]) dm_X9_at_1 rfl rfl rfl rfl ?_
  refine x_cp (pc' := 5) (v := ii (askP v w : Int)) (rest := []) dm_X9_at_2 rfl (g_invs (As := [.ref p, .ref q]) (S := []) rfl rfl rfl) rfl rfl rfl (t_placesAsked (by omega) hv hw) ?_
  refine me1 (pc' := 6) (L' := [(3, ii (askP v w : Int)), (0, .ref 26), (1, .ref p), (2, .ref q)]) (S' := []) dm_X9_at_5 rfl rfl rfl rfl ?_
  refine me1 (pc' := 7) (L' := [(3, ii (askP v w : Int)), (0, .ref 26), (1, .ref p), (2, .ref q)]) (S' := [ii (askP v w : Int)]) dm_X9_at_6 rfl rfl rfl rfl ?_
  refine y_1eq (a := (askP v w : Int)) (t := 15) (pc' := 10) dm_X9_at_7 rfl rfl (by omega) (fun hb1 => ?_) (fun hb1 => ?_)
  · have hask0 : ¬ (vk v ≤ 1 ∨ 6 ≤ vk w) ∧ ¬ (vk w = 1 ∨ vk w = 3) := by unfold askP at *; constructor; (intro z; rw [if_pos z] at *; omega); (intro z; by_cases y : vk v ≤ 1 ∨ 6 ≤ vk w; (rw [if_pos y] at *; omega); (rw [if_neg y, if_pos z] at *; omega))
    refine me1 (pc' := 16) (L' := [(3, ii (askP v w : Int)), (0, .ref 26), (1, .ref p), (2, .ref q)]) (S' := [.ref p]) dm_X9_at_15 rfl rfl rfl rfl ?_
    refine me3 (pc' := 19) (S' := [ii (vk v : Int)]) dm_X9_at_16 (g_get (v := ii (vk v : Int)) hp rfl rfl (by omega)) rfl rfl rfl ?_
    refine me0 (pc' := 21) (S' := [ii 6, ii (vk v : Int)]) dm_X9_at_19 rfl rfl rfl rfl ?_
    refine y_2ne (a := (vk v : Int)) (b := 6) (t := 36) (pc' := 24) dm_X9_at_21 rfl rfl (by omega) (fun hb2 => ?_) (fun hb2 => ?_)
    · refine me1 (pc' := 37) (L' := [(3, ii (askP v w : Int)), (0, .ref 26), (1, .ref p), (2, .ref q)]) (S' := [.ref 26]) dm_X9_at_36 rfl rfl rfl rfl ?_
      refine me1 (pc' := 38) (L' := [(3, ii (askP v w : Int)), (0, .ref 26), (1, .ref p), (2, .ref q)]) (S' := [.ref p, .ref 26]) dm_X9_at_37 rfl rfl rfl rfl ?_
      refine me1 (pc' := 39) (L' := [(3, ii (askP v w : Int)), (0, .ref 26), (1, .ref p), (2, .ref q)]) (S' := [.ref q, .ref p, .ref 26]) dm_X9_at_38 rfl rfl rfl rfl ?_
      refine x_cv (pc' := 42) (rest := []) dm_X9_at_39 rfl (g_inv (As := [.ref p, .ref q]) (S := []) h26 rfl rfl rfl (by decide)) rfl rfl rfl (t_placesThere hx1 (by omega) hl hA hH hv hw he hset hset2 (by omega)) ?_
      rintro x h1 ⟨P, rfl, rfl, hPt⟩
      refine y_zne (c := allP v w) (t := 51) (pc' := 45) dm_X9_at_42 rfl rfl (fun hb3 => ?_) (fun hb3 => ?_)
      · have hall : allP v w = true := hb3
        have hPt := hPt hall
        have hin : ∀ j, j < vm w → 0 ≤ (vn w j).toInt ∧ (vn w j).toInt < (vm v : Int) := fun j hj => of_decide_eq_true (allN_iff.mp hall j hj)
        have hds : d_at v w = if vk w = 0 then .inr (vit v (vn w 0).toInt.toNat) else s_pick v (fun k => (vn w k).toInt.toNat) (vm w) := by unfold d_at; rw [if_neg (by omega), if_neg (by omega), if_neg (by rw [hall]; decide)]
        refine me1 (pc' := 52) (L' := [(3, ii (askP v w : Int)), (0, .ref 26), (1, .ref p), (2, .ref q)]) (S' := [.ref q]) dm_X9_at_51 rfl rfl rfl rfl ?_
        refine x_cp (pc' := 55) (v := zz (decide (vk w ≤ 1))) (rest := []) dm_X9_at_52 rfl (g_inv (As := []) (S := []) (hl_ne (by omega) hq) rfl rfl rfl (by omega)) rfl rfl rfl (c_isOne (by omega) (cv_set (nA hA (Or.inl (by decide))) hw)) ?_
        refine y_zeq (c := decide (vk w ≤ 1)) (t := 71) (pc' := 58) dm_X9_at_55 rfl rfl (fun hb4 => ?_) (fun hb4 => ?_)
        · replace hb4 := dF hb4
          have hpk : ∀ j, j < vm w → -2147483648 ≤ P j ∧ P j ≤ 2147483647 ∧ (vk v ≤ 1 ∨ 0 ≤ P j ∧ P j < vm v) := fun j hj => by have a1 := hPt j hj; have a2 := hin j hj; omega
          refine me1 (pc' := 72) (L' := [(3, ii (askP v w : Int)), (0, .ref 26), (1, .ref p), (2, .ref q)]) (S' := [.ref p]) dm_X9_at_71 rfl rfl rfl rfl ?_
          refine me1 (pc' := 73) (L' := [(3, ii (askP v w : Int)), (0, .ref 26), (1, .ref p), (2, .ref q)]) (S' := [.ref 26, .ref p]) dm_X9_at_72 rfl rfl rfl rfl ?_
          refine me3 (pc' := 76) (S' := [.ref 29, .ref p]) dm_X9_at_73 (g_get (v := .ref 29) (hl_ne (by decide) h26) rfl rfl (by decide)) rfl rfl rfl ?_
          refine me1 (pc' := 77) (L' := [(3, ii (askP v w : Int)), (0, .ref 26), (1, .ref p), (2, .ref q)]) (S' := [.ref q, .ref 29, .ref p]) dm_X9_at_76 rfl rfl rfl rfl ?_
          refine me3 (pc' := 80) (S' := [ii (vm w : Int), .ref 29, .ref p]) dm_X9_at_77 (g_get (v := ii (vm w : Int)) (hl_ne (by omega) hq) rfl rfl (by omega)) rfl rfl rfl ?_
          have hs1 : scrS h ((h).set 29 (cI 144 P)) := scrS_set (by unfold scr; decide) h29 rfl
          have hA1 := okA_scr hA hs1
          have hl1 : 127 ≤ ((h).set 29 (cI 144 P)).length := by rw [hs1.1]; exact hl
          refine x_cv (pc' := 83) (rest := []) dm_X9_at_80 rfl (g_inv (As := [.ref 29, ii (vm w : Int)]) (S := []) (hl_ne (by omega) hp) rfl rfl rfl (by omega)) rfl rfl rfl (c_pick hx1 (by omega) hA1 hl1 (cv_set (nA hA (Or.inl (by decide))) hv) (hl_set (hl_lt h29)) (by decide) (by decide) (by omega) he hset (by omega) hpk) ?_
          rintro x h2 hres
          obtain ⟨qr, rfl⟩ := ares_ref hres
          refine y_ret (r := some (.ref qr)) dm_X9_at_83 rfl rfl rfl ?_
          refine ⟨_, rfl, _, hs1, actH_29 hH _, ?_⟩
          rw [hds]
          first | (rw [if_pos (show vk w = 0 by omega)]; exact vres_up (by omega) (by omega) hres) | (rw [if_neg (show ¬ vk w = 0 by omega)]; exact ares_congr hres (s_pick_congr (by omega) (fun j hj => by rw [hPt j hj])))
        · replace hb4 := dT hb4
          refine me1 (pc' := 59) (L' := [(3, ii (askP v w : Int)), (0, .ref 26), (1, .ref p), (2, .ref q)]) (S' := [.ref p]) dm_X9_at_58 rfl rfl rfl rfl ?_
          refine me1 (pc' := 60) (L' := [(3, ii (askP v w : Int)), (0, .ref 26), (1, .ref p), (2, .ref q)]) (S' := [.ref 26, .ref p]) dm_X9_at_59 rfl rfl rfl rfl ?_
          refine me3 (pc' := 63) (S' := [.ref 29, .ref p]) dm_X9_at_60 (g_get (v := .ref 29) (hl_ne (by decide) h26) rfl rfl (by decide)) rfl rfl rfl ?_
          refine me0 (pc' := 64) (S' := [ii 0, .ref 29, .ref p]) dm_X9_at_63 rfl rfl rfl rfl ?_
          refine me3 (pc' := 65) (S' := [ii (P 0), .ref p]) dm_X9_at_64 (yh_iald (v := P 0) (hl_set (hl_lt h29)) (by omega) (by omega) (by omega) (by decide) rfl) rfl rfl rfl ?_
          have hw1 := (hw.1.2.1 (by omega)).1
          have hi0 := hin 0 (by omega)
          refine pg_st0 (S' := [ii (((vn w 0).toInt.toNat : Nat) : Int), .ref p]) (congrArg (fun z => ii z :: [.ref p]) (by rw [hPt 0 (by omega)]; omega)) ?_
          have hs1 : scrS h ((h).set 29 (cI 144 P)) := scrS_set (by unfold scr; decide) h29 rfl
          have hA1 := okA_scr hA hs1
          have hl1 : 127 ≤ ((h).set 29 (cI 144 P)).length := by rw [hs1.1]; exact hl
          refine x_cv (pc' := 68) (rest := []) dm_X9_at_65 rfl (g_inv (As := [ii (((vn w 0).toInt.toNat : Nat) : Int)]) (S := []) (hl_ne (by omega) hp) rfl rfl rfl (by omega)) rfl rfl rfl (c_itemAt (i := (vn w 0).toInt.toNat) hx1 (by omega) hl1 (cv_set (nA hA (Or.inl (by decide))) hv) (by omega) (by omega)) ?_
          rintro x h2 hres
          obtain ⟨qr, rfl⟩ := vres_ref hres
          refine me2 (pc' := 83) (S' := [.ref qr]) dm_X9_at_68 rfl rfl rfl ?_
          refine y_ret (r := some (.ref qr)) dm_X9_at_83 rfl rfl rfl ?_
          refine ⟨_, rfl, _, hs1, actH_29 hH _, ?_⟩
          rw [hds]
          first | (rw [if_pos (show vk w = 0 by omega)]; exact vres_up (by omega) (by omega) hres) | (rw [if_neg (show ¬ vk w = 0 by omega)]; exact ares_congr hres (s_pick_congr (by omega) (fun j hj => by rw [hPt j hj])))
      · refine me0 (pc' := 47) (S' := [ii 7]) dm_X9_at_45 rfl rfl rfl rfl ?_
        refine x_cv (pc' := 50) (rest := []) dm_X9_at_47 rfl (g_invs (As := [ii 7]) (S := []) rfl rfl rfl) rfl rfl rfl (c_fault (q := h.length) (by omega) (by simp; omega) (by simp) (by omega)) ?_
        rintro _ _ ⟨rfl, rfl⟩
        refine y_ret (r := some (.ref h.length)) dm_X9_at_50 rfl rfl rfl ?_
        have hs1 : scrS h ((h).set 29 (cI 144 P)) := scrS_set (by unfold scr; decide) h29 rfl
        exact ⟨_, rfl, _, hs1, actH_29 hH _, by rw [show d_at v w = .inl 7 by unfold d_at; rw [if_neg (by omega), if_neg (by omega), if_pos hb3]]; exact ares_fq 7 hs1.1 (by rw [hs1.1]; omega) (by omega) (by omega)⟩
    · refine me1 (pc' := 25) (L' := [(3, ii (askP v w : Int)), (0, .ref 26), (1, .ref p), (2, .ref q)]) (S' := [.ref q]) dm_X9_at_24 rfl rfl rfl rfl ?_
      refine me3 (pc' := 28) (S' := [ii (vm w : Int)]) dm_X9_at_25 (g_get (v := ii (vm w : Int)) hq rfl rfl (by omega)) rfl rfl rfl ?_
      refine y_1ne (a := (vm w : Int)) (t := 36) (pc' := 31) dm_X9_at_28 rfl rfl (by omega) (fun hb5 => ?_) (fun hb5 => ?_)
      · refine me1 (pc' := 37) (L' := [(3, ii (askP v w : Int)), (0, .ref 26), (1, .ref p), (2, .ref q)]) (S' := [.ref 26]) dm_X9_at_36 rfl rfl rfl rfl ?_
        refine me1 (pc' := 38) (L' := [(3, ii (askP v w : Int)), (0, .ref 26), (1, .ref p), (2, .ref q)]) (S' := [.ref p, .ref 26]) dm_X9_at_37 rfl rfl rfl rfl ?_
        refine me1 (pc' := 39) (L' := [(3, ii (askP v w : Int)), (0, .ref 26), (1, .ref p), (2, .ref q)]) (S' := [.ref q, .ref p, .ref 26]) dm_X9_at_38 rfl rfl rfl rfl ?_
        refine x_cv (pc' := 42) (rest := []) dm_X9_at_39 rfl (g_inv (As := [.ref p, .ref q]) (S := []) h26 rfl rfl rfl (by decide)) rfl rfl rfl (t_placesThere hx1 (by omega) hl hA hH hv hw he hset hset2 (by omega)) ?_
        rintro x h1 ⟨P, rfl, rfl, hPt⟩
        refine y_zne (c := allP v w) (t := 51) (pc' := 45) dm_X9_at_42 rfl rfl (fun hb6 => ?_) (fun hb6 => ?_)
        · have hall : allP v w = true := hb6
          have hPt := hPt hall
          have hin : ∀ j, j < vm w → 0 ≤ (vn w j).toInt ∧ (vn w j).toInt < (vm v : Int) := fun j hj => of_decide_eq_true (allN_iff.mp hall j hj)
          have hds : d_at v w = if vk w = 0 then .inr (vit v (vn w 0).toInt.toNat) else s_pick v (fun k => (vn w k).toInt.toNat) (vm w) := by unfold d_at; rw [if_neg (by omega), if_neg (by omega), if_neg (by rw [hall]; decide)]
          refine me1 (pc' := 52) (L' := [(3, ii (askP v w : Int)), (0, .ref 26), (1, .ref p), (2, .ref q)]) (S' := [.ref q]) dm_X9_at_51 rfl rfl rfl rfl ?_
          refine x_cp (pc' := 55) (v := zz (decide (vk w ≤ 1))) (rest := []) dm_X9_at_52 rfl (g_inv (As := []) (S := []) (hl_ne (by omega) hq) rfl rfl rfl (by omega)) rfl rfl rfl (c_isOne (by omega) (cv_set (nA hA (Or.inl (by decide))) hw)) ?_
          refine y_zeq (c := decide (vk w ≤ 1)) (t := 71) (pc' := 58) dm_X9_at_55 rfl rfl (fun hb7 => ?_) (fun hb7 => ?_)
          · replace hb7 := dF hb7
            have hpk : ∀ j, j < vm w → -2147483648 ≤ P j ∧ P j ≤ 2147483647 ∧ (vk v ≤ 1 ∨ 0 ≤ P j ∧ P j < vm v) := fun j hj => by have a1 := hPt j hj; have a2 := hin j hj; omega
            refine me1 (pc' := 72) (L' := [(3, ii (askP v w : Int)), (0, .ref 26), (1, .ref p), (2, .ref q)]) (S' := [.ref p]) dm_X9_at_71 rfl rfl rfl rfl ?_
            refine me1 (pc' := 73) (L' := [(3, ii (askP v w : Int)), (0, .ref 26), (1, .ref p), (2, .ref q)]) (S' := [.ref 26, .ref p]) dm_X9_at_72 rfl rfl rfl rfl ?_
            refine me3 (pc' := 76) (S' := [.ref 29, .ref p]) dm_X9_at_73 (g_get (v := .ref 29) (hl_ne (by decide) h26) rfl rfl (by decide)) rfl rfl rfl ?_
            refine me1 (pc' := 77) (L' := [(3, ii (askP v w : Int)), (0, .ref 26), (1, .ref p), (2, .ref q)]) (S' := [.ref q, .ref 29, .ref p]) dm_X9_at_76 rfl rfl rfl rfl ?_
            refine me3 (pc' := 80) (S' := [ii (vm w : Int), .ref 29, .ref p]) dm_X9_at_77 (g_get (v := ii (vm w : Int)) (hl_ne (by omega) hq) rfl rfl (by omega)) rfl rfl rfl ?_
            have hs1 : scrS h ((h).set 29 (cI 144 P)) := scrS_set (by unfold scr; decide) h29 rfl
            have hA1 := okA_scr hA hs1
            have hl1 : 127 ≤ ((h).set 29 (cI 144 P)).length := by rw [hs1.1]; exact hl
            refine x_cv (pc' := 83) (rest := []) dm_X9_at_80 rfl (g_inv (As := [.ref 29, ii (vm w : Int)]) (S := []) (hl_ne (by omega) hp) rfl rfl rfl (by omega)) rfl rfl rfl (c_pick hx1 (by omega) hA1 hl1 (cv_set (nA hA (Or.inl (by decide))) hv) (hl_set (hl_lt h29)) (by decide) (by decide) (by omega) he hset (by omega) hpk) ?_
            rintro x h2 hres
            obtain ⟨qr, rfl⟩ := ares_ref hres
            refine y_ret (r := some (.ref qr)) dm_X9_at_83 rfl rfl rfl ?_
            refine ⟨_, rfl, _, hs1, actH_29 hH _, ?_⟩
            rw [hds]
            first | (rw [if_pos (show vk w = 0 by omega)]; exact vres_up (by omega) (by omega) hres) | (rw [if_neg (show ¬ vk w = 0 by omega)]; exact ares_congr hres (s_pick_congr (by omega) (fun j hj => by rw [hPt j hj])))
          · replace hb7 := dT hb7
            refine me1 (pc' := 59) (L' := [(3, ii (askP v w : Int)), (0, .ref 26), (1, .ref p), (2, .ref q)]) (S' := [.ref p]) dm_X9_at_58 rfl rfl rfl rfl ?_
            refine me1 (pc' := 60) (L' := [(3, ii (askP v w : Int)), (0, .ref 26), (1, .ref p), (2, .ref q)]) (S' := [.ref 26, .ref p]) dm_X9_at_59 rfl rfl rfl rfl ?_
            refine me3 (pc' := 63) (S' := [.ref 29, .ref p]) dm_X9_at_60 (g_get (v := .ref 29) (hl_ne (by decide) h26) rfl rfl (by decide)) rfl rfl rfl ?_
            refine me0 (pc' := 64) (S' := [ii 0, .ref 29, .ref p]) dm_X9_at_63 rfl rfl rfl rfl ?_
            refine me3 (pc' := 65) (S' := [ii (P 0), .ref p]) dm_X9_at_64 (yh_iald (v := P 0) (hl_set (hl_lt h29)) (by omega) (by omega) (by omega) (by decide) rfl) rfl rfl rfl ?_
            have hw1 := (hw.1.2.1 (by omega)).1
            have hi0 := hin 0 (by omega)
            refine pg_st0 (S' := [ii (((vn w 0).toInt.toNat : Nat) : Int), .ref p]) (congrArg (fun z => ii z :: [.ref p]) (by rw [hPt 0 (by omega)]; omega)) ?_
            have hs1 : scrS h ((h).set 29 (cI 144 P)) := scrS_set (by unfold scr; decide) h29 rfl
            have hA1 := okA_scr hA hs1
            have hl1 : 127 ≤ ((h).set 29 (cI 144 P)).length := by rw [hs1.1]; exact hl
            refine x_cv (pc' := 68) (rest := []) dm_X9_at_65 rfl (g_inv (As := [ii (((vn w 0).toInt.toNat : Nat) : Int)]) (S := []) (hl_ne (by omega) hp) rfl rfl rfl (by omega)) rfl rfl rfl (c_itemAt (i := (vn w 0).toInt.toNat) hx1 (by omega) hl1 (cv_set (nA hA (Or.inl (by decide))) hv) (by omega) (by omega)) ?_
            rintro x h2 hres
            obtain ⟨qr, rfl⟩ := vres_ref hres
            refine me2 (pc' := 83) (S' := [.ref qr]) dm_X9_at_68 rfl rfl rfl ?_
            refine y_ret (r := some (.ref qr)) dm_X9_at_83 rfl rfl rfl ?_
            refine ⟨_, rfl, _, hs1, actH_29 hH _, ?_⟩
            rw [hds]
            first | (rw [if_pos (show vk w = 0 by omega)]; exact vres_up (by omega) (by omega) hres) | (rw [if_neg (show ¬ vk w = 0 by omega)]; exact ares_congr hres (s_pick_congr (by omega) (fun j hj => by rw [hPt j hj])))
        · refine me0 (pc' := 47) (S' := [ii 7]) dm_X9_at_45 rfl rfl rfl rfl ?_
          refine x_cv (pc' := 50) (rest := []) dm_X9_at_47 rfl (g_invs (As := [ii 7]) (S := []) rfl rfl rfl) rfl rfl rfl (c_fault (q := h.length) (by omega) (by simp; omega) (by simp) (by omega)) ?_
          rintro _ _ ⟨rfl, rfl⟩
          refine y_ret (r := some (.ref h.length)) dm_X9_at_50 rfl rfl rfl ?_
          have hs1 : scrS h ((h).set 29 (cI 144 P)) := scrS_set (by unfold scr; decide) h29 rfl
          exact ⟨_, rfl, _, hs1, actH_29 hH _, by rw [show d_at v w = .inl 7 by unfold d_at; rw [if_neg (by omega), if_neg (by omega), if_pos hb6]]; exact ares_fq 7 hs1.1 (by rw [hs1.1]; omega) (by omega) (by omega)⟩
      · refine me0 (pc' := 32) (S' := [ii 4]) dm_X9_at_31 rfl rfl rfl rfl ?_
        refine x_cv (pc' := 35) (rest := []) dm_X9_at_32 rfl (g_invs (As := [ii 4]) (S := []) rfl rfl rfl) rfl rfl rfl (c_fault (q := h.length) (by omega) (by omega) rfl (by omega)) ?_
        rintro _ _ ⟨rfl, rfl⟩
        refine y_ret (r := some (.ref h.length)) dm_X9_at_35 rfl rfl rfl ?_
        exact ⟨_, rfl, h, scrS_rf h, hH, by rw [show d_at v w = .inl 4 by unfold d_at; rw [if_neg (by omega), if_pos (by omega)]]; exact ares_f 4 (by omega) (by omega) (by omega)⟩
  · refine me1 (pc' := 11) (L' := [(3, ii (askP v w : Int)), (0, .ref 26), (1, .ref p), (2, .ref q)]) (S' := [ii (askP v w : Int)]) dm_X9_at_10 rfl rfl rfl rfl ?_
    refine x_cv (pc' := 14) (rest := []) dm_X9_at_11 rfl (g_invs (As := [ii (askP v w : Int)]) (S := []) rfl rfl rfl) rfl rfl rfl (c_fault (q := h.length) (by omega) (by omega) rfl (by omega)) ?_
    rintro _ _ ⟨rfl, rfl⟩
    refine y_ret (r := some (.ref h.length)) dm_X9_at_14 rfl rfl rfl ?_
    exact ⟨_, rfl, h, scrS_rf h, hH, by rw [show d_at v w = .inl (askP v w) by unfold d_at; rw [if_pos (by omega)]]; exact ares_f (askP v w) (by omega) (by omega) (by omega)⟩
set_option maxRecDepth 20000 in
theorem pm_X9_dropped : mj_mmof pg_ms 148 = some ((⟨"ArrayCalculator$TwoAct", "dropped", "(LArrayCalculator$Value;LArrayCalculator$Value;)LArrayCalculator$Value;"⟩, prog_11_method_7_code, 7, (Option.some (Jvm.ClassFile.FieldType.object "ArrayCalculator$Value"))), 9, false, mj_dec prog_11_method_7_code) := rfl
theorem dm_X9_dropped_0 : mj_dec prog_11_method_7_code 0 = some (.aload_n 1, 1) := by decide +kernel
theorem dm_X9_dropped_1 : mj_dec prog_11_method_7_code 1 = some (.invokevirtual 140, 3) := by decide +kernel
theorem dm_X9_dropped_4 : mj_dec prog_11_method_7_code 4 = some (.ifCond .ne 8, 3) := by decide +kernel
theorem dm_X9_dropped_7 : mj_dec prog_11_method_7_code 7 = some (.iconst 3, 1) := by decide +kernel
theorem dm_X9_dropped_8 : mj_dec prog_11_method_7_code 8 = some (.invokestatic 81, 3) := by decide +kernel
theorem dm_X9_dropped_11 : mj_dec prog_11_method_7_code 11 = some (.areturn, 1) := by decide +kernel
theorem dm_X9_dropped_12 : mj_dec prog_11_method_7_code 12 = some (.aload_n 1, 1) := by decide +kernel
theorem dm_X9_dropped_13 : mj_dec prog_11_method_7_code 13 = some (.getfield 102, 3) := by decide +kernel
theorem dm_X9_dropped_16 : mj_dec prog_11_method_7_code 16 = some (.iconst 1, 1) := by decide +kernel
theorem dm_X9_dropped_17 : mj_dec prog_11_method_7_code 17 = some (.if_icmp .ne 8, 3) := by decide +kernel
theorem dm_X9_dropped_20 : mj_dec prog_11_method_7_code 20 = some (.iconst 5, 1) := by decide +kernel
theorem dm_X9_dropped_21 : mj_dec prog_11_method_7_code 21 = some (.invokestatic 81, 3) := by decide +kernel
theorem dm_X9_dropped_24 : mj_dec prog_11_method_7_code 24 = some (.areturn, 1) := by decide +kernel
theorem dm_X9_dropped_25 : mj_dec prog_11_method_7_code 25 = some (.aload_n 2, 1) := by decide +kernel
theorem dm_X9_dropped_26 : mj_dec prog_11_method_7_code 26 = some (.getfield 94, 3) := by decide +kernel
theorem dm_X9_dropped_29 : mj_dec prog_11_method_7_code 29 = some (.ineg, 1) := by decide +kernel
theorem dm_X9_dropped_30 : mj_dec prog_11_method_7_code 30 = some (.i2l, 1) := by decide +kernel
theorem dm_X9_dropped_31 : mj_dec prog_11_method_7_code 31 = some (.aload_n 2, 1) := by decide +kernel
theorem dm_X9_dropped_32 : mj_dec prog_11_method_7_code 32 = some (.getfield 94, 3) := by decide +kernel
theorem dm_X9_dropped_35 : mj_dec prog_11_method_7_code 35 = some (.i2l, 1) := by decide +kernel
theorem dm_X9_dropped_36 : mj_dec prog_11_method_7_code 36 = some (.aload_n 1, 1) := by decide +kernel
theorem dm_X9_dropped_37 : mj_dec prog_11_method_7_code 37 = some (.getfield 143, 3) := by decide +kernel
theorem dm_X9_dropped_40 : mj_dec prog_11_method_7_code 40 = some (.invokestatic 167, 3) := by decide +kernel
theorem dm_X9_dropped_43 : mj_dec prog_11_method_7_code 43 = some (.invokestatic 171, 3) := by decide +kernel
theorem dm_X9_dropped_46 : mj_dec prog_11_method_7_code 46 = some (.l2i, 1) := by decide +kernel
theorem dm_X9_dropped_47 : mj_dec prog_11_method_7_code 47 = some (.istore_n 3, 1) := by decide +kernel
theorem dm_X9_dropped_48 : mj_dec prog_11_method_7_code 48 = some (.iload_n 3, 1) := by decide +kernel
theorem dm_X9_dropped_49 : mj_dec prog_11_method_7_code 49 = some (.iconst 0, 1) := by decide +kernel
theorem dm_X9_dropped_50 : mj_dec prog_11_method_7_code 50 = some (.invokestatic 174, 3) := by decide +kernel
theorem dm_X9_dropped_53 : mj_dec prog_11_method_7_code 53 = some (.istore 4, 2) := by decide +kernel
theorem dm_X9_dropped_55 : mj_dec prog_11_method_7_code 55 = some (.aload_n 2, 1) := by decide +kernel
theorem dm_X9_dropped_56 : mj_dec prog_11_method_7_code 56 = some (.getfield 94, 3) := by decide +kernel
theorem dm_X9_dropped_59 : mj_dec prog_11_method_7_code 59 = some (.iload_n 3, 1) := by decide +kernel
theorem dm_X9_dropped_60 : mj_dec prog_11_method_7_code 60 = some (.invokestatic 177, 3) := by decide +kernel
theorem dm_X9_dropped_63 : mj_dec prog_11_method_7_code 63 = some (.isub, 1) := by decide +kernel
theorem dm_X9_dropped_64 : mj_dec prog_11_method_7_code 64 = some (.istore 5, 2) := by decide +kernel
theorem dm_X9_dropped_66 : mj_dec prog_11_method_7_code 66 = some (.iconst 0, 1) := by decide +kernel
theorem dm_X9_dropped_67 : mj_dec prog_11_method_7_code 67 = some (.istore 6, 2) := by decide +kernel
theorem dm_X9_dropped_69 : mj_dec prog_11_method_7_code 69 = some (.iload 6, 2) := by decide +kernel
theorem dm_X9_dropped_71 : mj_dec prog_11_method_7_code 71 = some (.iload 5, 2) := by decide +kernel
theorem dm_X9_dropped_73 : mj_dec prog_11_method_7_code 73 = some (.if_icmp .ge 21, 3) := by decide +kernel
theorem dm_X9_dropped_76 : mj_dec prog_11_method_7_code 76 = some (.aload_n 0, 1) := by decide +kernel
theorem dm_X9_dropped_77 : mj_dec prog_11_method_7_code 77 = some (.getfield 18, 3) := by decide +kernel
theorem dm_X9_dropped_80 : mj_dec prog_11_method_7_code 80 = some (.iload 6, 2) := by decide +kernel
theorem dm_X9_dropped_82 : mj_dec prog_11_method_7_code 82 = some (.iload 4, 2) := by decide +kernel
theorem dm_X9_dropped_84 : mj_dec prog_11_method_7_code 84 = some (.iload 6, 2) := by decide +kernel
theorem dm_X9_dropped_86 : mj_dec prog_11_method_7_code 86 = some (.iadd, 1) := by decide +kernel
theorem dm_X9_dropped_87 : mj_dec prog_11_method_7_code 87 = some (.iastore, 1) := by decide +kernel
theorem dm_X9_dropped_88 : mj_dec prog_11_method_7_code 88 = some (.iinc 6 1, 3) := by decide +kernel
theorem dm_X9_dropped_91 : mj_dec prog_11_method_7_code 91 = some (.goto (-22), 3) := by decide +kernel
theorem dm_X9_dropped_94 : mj_dec prog_11_method_7_code 94 = some (.aload_n 2, 1) := by decide +kernel
theorem dm_X9_dropped_95 : mj_dec prog_11_method_7_code 95 = some (.aload_n 0, 1) := by decide +kernel
theorem dm_X9_dropped_96 : mj_dec prog_11_method_7_code 96 = some (.getfield 18, 3) := by decide +kernel
theorem dm_X9_dropped_99 : mj_dec prog_11_method_7_code 99 = some (.iload 5, 2) := by decide +kernel
theorem dm_X9_dropped_101 : mj_dec prog_11_method_7_code 101 = some (.invokevirtual 157, 3) := by decide +kernel
theorem dm_X9_dropped_104 : mj_dec prog_11_method_7_code 104 = some (.areturn, 1) := by decide +kernel
theorem t_dropped {xt : mj_X} {d e p q : Nat} {A : Nat → Prop} {h : mj_H} {v w : VV} {f1 : Nat → Value} (hx1 : xt 1 = some (.long, 0, f1)) (hd : 10 ≤ d) (hl : 127 ≤ h.length) (hA : okA A h) (hH : actH h) (hv : cv A h (e + 1) p v) (hw : cv A h (e + 1) q w) (he : e ≤ 20) (hset : vsz (e + 1) v ≤ 1000) (hset2 : vsz (e + 1) w ≤ 1000) : pgV xt d 148 [.ref 26, .ref p, .ref q] h (aact A h (e + 1) (d_drop v w) 2 (pcl w (vm w - (dclamp v w).natAbs) + 9)) := by
  obtain ⟨-, -, -, -, -, -, -, -, ⟨ft0, h26⟩, -, -, ⟨pf0, h29⟩, ⟨nf0, h30⟩, ⟨uf0, h31⟩⟩ := id hH
  have hcv := vw1_c hv.1
  have hcw := vw1_c hw.1
  obtain ⟨row, fr, vals, hp, hp2, hpA, hvk, hvm, hvc, hvs, hvl⟩ := cv_val hv
  obtain ⟨row2, fr2, vals2, hq, hq2, hqA, hwk, hwm, hwc, hws, hwl⟩ := cv_val hw
  have hpb := hA p hpA
  have hqb := hA q hqA
  refine x_enter pm_X9_dropped (L0 := [(0, .ref 26), (1, .ref p), (2, .ref q)]) rfl (Nat.le_of_ble_eq_true rfl) (by omega) ?_
  refine me1 (pc' := 1) (L' := [(0, .ref 26), (1, .ref p), (2, .ref q)]) (S' := [.ref p]) dm_X9_dropped_0 rfl rfl rfl rfl ?_
  refine x_cp (pc' := 4) (v := zz (decide (vk v ≤ 1))) (rest := []) dm_X9_dropped_1 rfl (g_inv (As := []) (S := []) hp rfl rfl rfl (by omega)) rfl rfl rfl (c_isOne (by omega) hv) ?_
  refine y_zne (c := decide (vk v ≤ 1)) (t := 12) (pc' := 7) dm_X9_dropped_4 rfl rfl (fun hb1 => ?_) (fun hb1 => ?_)
  · replace hb1 := dT hb1
    refine me1 (pc' := 13) (L' := [(0, .ref 26), (1, .ref p), (2, .ref q)]) (S' := [.ref p]) dm_X9_dropped_12 rfl rfl rfl rfl ?_
    refine me3 (pc' := 16) (S' := [ii (vk v : Int)]) dm_X9_dropped_13 (g_get (v := ii (vk v : Int)) hp rfl rfl (by omega)) rfl rfl rfl ?_
    refine me0 (pc' := 17) (S' := [ii 1, ii (vk v : Int)]) dm_X9_dropped_16 rfl rfl rfl rfl ?_
    refine y_2ne (a := (vk v : Int)) (b := 1) (t := 25) (pc' := 20) dm_X9_dropped_17 rfl rfl (by omega) (fun hb2 => ?_) (fun hb2 => ?_)
    · refine me1 (pc' := 26) (L' := [(0, .ref 26), (1, .ref p), (2, .ref q)]) (S' := [.ref q]) dm_X9_dropped_25 rfl rfl rfl rfl ?_
      refine me3 (pc' := 29) (S' := [ii (vm w : Int)]) dm_X9_dropped_26 (g_get (v := ii (vm w : Int)) hq rfl rfl (by omega)) rfl rfl rfl ?_
      refine y_ineg (a := (vm w : Int)) dm_X9_dropped_29 (pc' := 30) rfl ?_
      refine y_i2l (a := -(vm w : Int)) dm_X9_dropped_30 (pc' := 31) rfl (by omega) (by omega) ?_
      refine me1 (pc' := 32) (L' := [(0, .ref 26), (1, .ref p), (2, .ref q)]) (S' := [.ref q, .long (Int64.ofInt (-(vm w : Int)))]) dm_X9_dropped_31 rfl rfl rfl rfl ?_
      refine me3 (pc' := 35) (S' := [ii (vm w : Int), .long (Int64.ofInt (-(vm w : Int)))]) dm_X9_dropped_32 (g_get (v := ii (vm w : Int)) hq rfl rfl (by omega)) rfl rfl rfl ?_
      refine y_i2l (a := (vm w : Int)) dm_X9_dropped_35 (pc' := 36) rfl (by omega) (by omega) ?_
      refine me1 (pc' := 37) (L' := [(0, .ref 26), (1, .ref p), (2, .ref q)]) (S' := [.ref p, .long (Int64.ofInt (vm w : Int)), .long (Int64.ofInt (-(vm w : Int)))]) dm_X9_dropped_36 rfl rfl rfl rfl ?_
      refine me3 (pc' := 40) (S' := [.long (cnum v), .long (Int64.ofInt (vm w : Int)), .long (Int64.ofInt (-(vm w : Int)))]) dm_X9_dropped_37 (g_get (v := .long (cnum v)) hp rfl rfl (by omega)) rfl rfl rfl ?_
      refine y_pr (i := .iadd) (pc' := 43) (S' := [.long (lmn (Int64.ofInt (vm w : Int)) (cnum v)), .long (Int64.ofInt (-(vm w : Int)))]) dm_X9_dropped_40 rfl (p_lmin rfl) (by omega) rfl ?_
      refine y_pr (i := .iadd) (pc' := 46) (S' := [.long (lmx (Int64.ofInt (-(vm w : Int))) (lmn (Int64.ofInt (vm w : Int)) (cnum v)))]) dm_X9_dropped_43 rfl (p_lmax rfl) (by omega) rfl ?_
      have hvn : vn v 0 = cnum v := by unfold cnum; rw [if_pos (by omega)]
      have hcl : (lmx (Int64.ofInt (-(vm w : Int))) (lmn (Int64.ofInt (vm w : Int)) (cnum v))).toInt = dclamp v w := by rw [lmx_i, lmn_i, n_toL (by omega) (by omega), n_toL (by omega) (by omega)]; unfold dclamp; rw [hvn]
      have hcr : -(vm w : Int) ≤ dclamp v w ∧ dclamp v w ≤ (vm w : Int) := by unfold dclamp; omega
      refine y_l2i (a := dclamp v w) dm_X9_dropped_46 (pc' := 47) rfl (n_l2i _ hcl) ?_
      refine me1 (pc' := 48) (L' := [(3, ii (dclamp v w)), (0, .ref 26), (1, .ref p), (2, .ref q)]) (S' := []) dm_X9_dropped_47 rfl rfl rfl rfl ?_
      refine me1 (pc' := 49) (L' := [(3, ii (dclamp v w)), (0, .ref 26), (1, .ref p), (2, .ref q)]) (S' := [ii (dclamp v w)]) dm_X9_dropped_48 rfl rfl rfl rfl ?_
      refine me0 (pc' := 50) (S' := [ii 0, ii (dclamp v w)]) dm_X9_dropped_49 rfl rfl rfl rfl ?_
      refine y_pr (i := .iadd) (pc' := 53) (S' := [ii (max (dclamp v w) 0)]) dm_X9_dropped_50 rfl (p_imax (by omega) (by omega) (by omega) (by omega) rfl) (by omega) rfl ?_
      refine me1 (pc' := 55) (L' := [(4, ii (max (dclamp v w) 0)), (3, ii (dclamp v w)), (0, .ref 26), (1, .ref p), (2, .ref q)]) (S' := []) dm_X9_dropped_53 rfl rfl rfl rfl ?_
      refine me1 (pc' := 56) (L' := [(4, ii (max (dclamp v w) 0)), (3, ii (dclamp v w)), (0, .ref 26), (1, .ref p), (2, .ref q)]) (S' := [.ref q]) dm_X9_dropped_55 rfl rfl rfl rfl ?_
      refine me3 (pc' := 59) (S' := [ii (vm w : Int)]) dm_X9_dropped_56 (g_get (v := ii (vm w : Int)) hq rfl rfl (by omega)) rfl rfl rfl ?_
      refine me1 (pc' := 60) (L' := [(4, ii (max (dclamp v w) 0)), (3, ii (dclamp v w)), (0, .ref 26), (1, .ref p), (2, .ref q)]) (S' := [ii (dclamp v w), ii (vm w : Int)]) dm_X9_dropped_59 rfl rfl rfl rfl ?_
      refine y_pr (i := .iadd) (pc' := 63) (S' := [ii (((dclamp v w).natAbs : Nat) : Int), ii (vm w : Int)]) dm_X9_dropped_60 rfl (p_iabs (by omega) (by omega) rfl) (by omega) rfl ?_
      refine y_isub (a := (vm w : Int)) (b := (((dclamp v w).natAbs : Nat) : Int)) dm_X9_dropped_63 (pc' := 64) rfl ?_
      refine pg_st0 (S' := [ii ((vm w - (dclamp v w).natAbs : Nat) : Int)]) (congrArg (fun z => ii z :: []) (by omega)) ?_
      refine me1 (pc' := 66) (L' := [(5, ii ((vm w - (dclamp v w).natAbs : Nat) : Int)), (4, ii (max (dclamp v w) 0)), (3, ii (dclamp v w)), (0, .ref 26), (1, .ref p), (2, .ref q)]) (S' := []) dm_X9_dropped_64 rfl rfl rfl rfl ?_
      refine me0 (pc' := 67) (S' := [ii 0]) dm_X9_dropped_66 rfl rfl rfl rfl ?_
      refine me1 (pc' := 69) (L' := [(6, ii 0), (5, ii ((vm w - (dclamp v w).natAbs : Nat) : Int)), (4, ii (max (dclamp v w) 0)), (3, ii (dclamp v w)), (0, .ref 26), (1, .ref p), (2, .ref q)]) (S' := []) dm_X9_dropped_67 rfl rfl rfl rfl ?_
      have lp69 : ∀ (n69 : Nat) (k : Nat), (vm w - (dclamp v w).natAbs) - k = n69 → (k ≤ (vm w - (dclamp v w).natAbs)) → pgE xt (d - 1) 9 7 false (Option.some (Jvm.ClassFile.FieldType.object "ArrayCalculator$Value")) (mj_dec prog_11_method_7_code) 69 [(0, .ref 26), (1, .ref p), (2, .ref q), (3, ii (dclamp v w)), (4, ii (max (dclamp v w) 0)), (5, ii ((vm w - (dclamp v w).natAbs : Nat) : Int)), (6, ii (k : Int))] [] ((h).set 29 (cI 144 (fl k (fun k : Nat => max (dclamp v w) 0 + (k : Int)) pf0))) (fun r h' => ∃ x, r = some x ∧ aact A h (e + 1) (d_drop v w) 2 (pcl w (vm w - (dclamp v w).natAbs) + 9) x h') := by
        intro n69
        induction n69 using Nat.strongRecOn with
        | ind n69 ih69 =>
          intro k hm69 hk
          refine me1 (pc' := 71) (L' := [(0, .ref 26), (1, .ref p), (2, .ref q), (3, ii (dclamp v w)), (4, ii (max (dclamp v w) 0)), (5, ii ((vm w - (dclamp v w).natAbs : Nat) : Int)), (6, ii (k : Int))]) (S' := [ii (k : Int)]) dm_X9_dropped_69 rfl rfl rfl rfl ?_
          refine me1 (pc' := 73) (L' := [(0, .ref 26), (1, .ref p), (2, .ref q), (3, ii (dclamp v w)), (4, ii (max (dclamp v w) 0)), (5, ii ((vm w - (dclamp v w).natAbs : Nat) : Int)), (6, ii (k : Int))]) (S' := [ii ((vm w - (dclamp v w).natAbs : Nat) : Int), ii (k : Int)]) dm_X9_dropped_71 rfl rfl rfl rfl ?_
          refine y_2ge (a := (k : Int)) (b := ((vm w - (dclamp v w).natAbs : Nat) : Int)) (t := 94) (pc' := 76) dm_X9_dropped_73 rfl rfl (by omega) (fun hb3 => ?_) (fun hb3 => ?_)
          · have hkn : k = (vm w - (dclamp v w).natAbs) := by omega
            have hpk : ∀ j, j < (vm w - (dclamp v w).natAbs) → -2147483648 ≤ fl k (fun k : Nat => max (dclamp v w) 0 + (k : Int)) pf0 j ∧ fl k (fun k : Nat => max (dclamp v w) 0 + (k : Int)) pf0 j ≤ 2147483647 ∧ (vk w ≤ 1 ∨ 0 ≤ fl k (fun k : Nat => max (dclamp v w) 0 + (k : Int)) pf0 j ∧ fl k (fun k : Nat => max (dclamp v w) 0 + (k : Int)) pf0 j < vm w) := fun j hj => by rw [fl_at _ _ (by omega)]; show _ ≤ max (dclamp v w) 0 + (j : Int) ∧ max (dclamp v w) 0 + (j : Int) ≤ _ ∧ (vk w ≤ 1 ∨ 0 ≤ max (dclamp v w) 0 + (j : Int) ∧ max (dclamp v w) 0 + (j : Int) < (vm w : Int)); omega
            refine me1 (pc' := 95) (L' := [(0, .ref 26), (1, .ref p), (2, .ref q), (3, ii (dclamp v w)), (4, ii (max (dclamp v w) 0)), (5, ii ((vm w - (dclamp v w).natAbs : Nat) : Int)), (6, ii (k : Int))]) (S' := [.ref q]) dm_X9_dropped_94 rfl rfl rfl rfl ?_
            refine me1 (pc' := 96) (L' := [(0, .ref 26), (1, .ref p), (2, .ref q), (3, ii (dclamp v w)), (4, ii (max (dclamp v w) 0)), (5, ii ((vm w - (dclamp v w).natAbs : Nat) : Int)), (6, ii (k : Int))]) (S' := [.ref 26, .ref q]) dm_X9_dropped_95 rfl rfl rfl rfl ?_
            refine me3 (pc' := 99) (S' := [.ref 29, .ref q]) dm_X9_dropped_96 (g_get (v := .ref 29) (hl_ne (by decide) h26) rfl rfl (by decide)) rfl rfl rfl ?_
            refine me1 (pc' := 101) (L' := [(0, .ref 26), (1, .ref p), (2, .ref q), (3, ii (dclamp v w)), (4, ii (max (dclamp v w) 0)), (5, ii ((vm w - (dclamp v w).natAbs : Nat) : Int)), (6, ii (k : Int))]) (S' := [ii ((vm w - (dclamp v w).natAbs : Nat) : Int), .ref 29, .ref q]) dm_X9_dropped_99 rfl rfl rfl rfl ?_
            have hs1 : scrS h ((h).set 29 (cI 144 (fl k (fun k : Nat => max (dclamp v w) 0 + (k : Int)) pf0))) := scrS_set (by unfold scr; decide) h29 rfl
            have hA1 := okA_scr hA hs1
            have hl1 : 127 ≤ ((h).set 29 (cI 144 (fl k (fun k : Nat => max (dclamp v w) 0 + (k : Int)) pf0))).length := by rw [hs1.1]; exact hl
            refine x_cv (pc' := 104) (rest := []) dm_X9_dropped_101 rfl (g_inv (As := [.ref 29, ii ((vm w - (dclamp v w).natAbs : Nat) : Int)]) (S := []) (hl_ne (by omega) hq) rfl rfl rfl (by omega)) rfl rfl rfl (c_pick hx1 (by omega) hA1 hl1 (cv_set (nA hA (Or.inl (by decide))) hw) (hl_set (hl_lt h29)) (by decide) (by decide) (by omega) he hset2 (by omega) hpk) ?_
            rintro x h2 hres
            obtain ⟨qr, rfl⟩ := ares_ref hres
            refine y_ret (r := some (.ref qr)) dm_X9_dropped_104 rfl rfl rfl ?_
            refine ⟨_, rfl, _, hs1, actH_29 hH _, ?_⟩
            rw [show d_drop v w = s_pick w (fun k => (max (dclamp v w) 0).toNat + k) (vm w - (dclamp v w).natAbs) by unfold d_drop; rw [if_neg (by omega), if_neg (by omega)]]
            exact ares_congr hres (s_pick_congr (by omega) (fun j hj => by rw [fl_at _ _ (by omega)]; show (max (dclamp v w) 0 + (j : Int)).toNat = (max (dclamp v w) 0).toNat + j; omega))
          · refine me1 (pc' := 77) (L' := [(0, .ref 26), (1, .ref p), (2, .ref q), (3, ii (dclamp v w)), (4, ii (max (dclamp v w) 0)), (5, ii ((vm w - (dclamp v w).natAbs : Nat) : Int)), (6, ii (k : Int))]) (S' := [.ref 26]) dm_X9_dropped_76 rfl rfl rfl rfl ?_
            refine me3 (pc' := 80) (S' := [.ref 29]) dm_X9_dropped_77 (g_get (v := .ref 29) (hl_ne (by decide) h26) rfl rfl (by decide)) rfl rfl rfl ?_
            refine me1 (pc' := 82) (L' := [(0, .ref 26), (1, .ref p), (2, .ref q), (3, ii (dclamp v w)), (4, ii (max (dclamp v w) 0)), (5, ii ((vm w - (dclamp v w).natAbs : Nat) : Int)), (6, ii (k : Int))]) (S' := [ii (k : Int), .ref 29]) dm_X9_dropped_80 rfl rfl rfl rfl ?_
            refine me1 (pc' := 84) (L' := [(0, .ref 26), (1, .ref p), (2, .ref q), (3, ii (dclamp v w)), (4, ii (max (dclamp v w) 0)), (5, ii ((vm w - (dclamp v w).natAbs : Nat) : Int)), (6, ii (k : Int))]) (S' := [ii (max (dclamp v w) 0), ii (k : Int), .ref 29]) dm_X9_dropped_82 rfl rfl rfl rfl ?_
            refine me1 (pc' := 86) (L' := [(0, .ref 26), (1, .ref p), (2, .ref q), (3, ii (dclamp v w)), (4, ii (max (dclamp v w) 0)), (5, ii ((vm w - (dclamp v w).natAbs : Nat) : Int)), (6, ii (k : Int))]) (S' := [ii (k : Int), ii (max (dclamp v w) 0), ii (k : Int), .ref 29]) dm_X9_dropped_84 rfl rfl rfl rfl ?_
            refine y_iadd (a := max (dclamp v w) 0) (b := (k : Int)) dm_X9_dropped_86 (pc' := 87) rfl ?_
            refine me3 (pc' := 88) (S' := []) (h1 := (h).set 29 (cI 144 (va_up (fl k (fun k : Nat => max (dclamp v w) 0 + (k : Int)) pf0) k ((max (dclamp v w) 0) + (k : Int))))) dm_X9_dropped_87 (y_hs (yh_iast (j := (k : Int)) (hl_set (hl_lt h29)) (by omega) (by omega) (by omega) (by decide)) (by rw [show (k : Int).toNat = k from rfl]; rw [List.set_set])) rfl rfl rfl ?_
            refine y_iinc (pc' := 91) (L' := [(6, ii ((k : Int) + 1)), (0, .ref 26), (1, .ref p), (2, .ref q), (3, ii (dclamp v w)), (4, ii (max (dclamp v w) 0)), (5, ii ((vm w - (dclamp v w).natAbs : Nat) : Int))]) dm_X9_dropped_88 (y_incp (a := (k : Int)) (c := 1) rfl rfl (by decide)) rfl ?_
            refine me2 (pc' := 69) (S' := []) dm_X9_dropped_91 rfl rfl rfl ?_
            refine pg_cast (h2 := (h).set 29 (cI 144 (fl (k + 1) (fun k : Nat => max (dclamp v w) 0 + (k : Int)) pf0))) (congrArg (fun z => h.set 29 (cI 144 z)) (fl_s k (fun k : Nat => max (dclamp v w) 0 + (k : Int)) pf0)) ?_
            exact pg_sub (L := [(0, .ref 26), (1, .ref p), (2, .ref q), (3, ii (dclamp v w)), (4, ii (max (dclamp v w) 0)), (5, ii ((vm w - (dclamp v w).natAbs : Nat) : Int)), (6, ii ((k + 1) : Int))]) rfl rfl rfl (ih69 ((vm w - (dclamp v w).natAbs) - (k + 1)) (by omega) (k + 1) rfl (by omega))
      refine pg_cast (h2 := (h).set 29 (cI 144 (fl 0 (fun k : Nat => max (dclamp v w) 0 + (k : Int)) pf0))) (by rw [fl_0]; exact (hl_self h29).symm) ?_
      exact pg_sub (L := [(0, .ref 26), (1, .ref p), (2, .ref q), (3, ii (dclamp v w)), (4, ii (max (dclamp v w) 0)), (5, ii ((vm w - (dclamp v w).natAbs : Nat) : Int)), (6, ii (0 : Int))]) rfl rfl rfl (lp69 _ 0 rfl (Nat.zero_le _))
    · refine me0 (pc' := 21) (S' := [ii 5]) dm_X9_dropped_20 rfl rfl rfl rfl ?_
      refine x_cv (pc' := 24) (rest := []) dm_X9_dropped_21 rfl (g_invs (As := [ii 5]) (S := []) rfl rfl rfl) rfl rfl rfl (c_fault (q := h.length) (by omega) (by omega) rfl (by omega)) ?_
      rintro _ _ ⟨rfl, rfl⟩
      refine y_ret (r := some (.ref h.length)) dm_X9_dropped_24 rfl rfl rfl ?_
      exact ⟨_, rfl, h, scrS_rf h, hH, by rw [show d_drop v w = .inl 5 by unfold d_drop; rw [if_neg (by omega), if_pos (by omega)]]; exact ares_f 5 (by omega) (by omega) (by omega)⟩
  · replace hb1 := dF hb1
    refine me0 (pc' := 8) (S' := [ii 3]) dm_X9_dropped_7 rfl rfl rfl rfl ?_
    refine x_cv (pc' := 11) (rest := []) dm_X9_dropped_8 rfl (g_invs (As := [ii 3]) (S := []) rfl rfl rfl) rfl rfl rfl (c_fault (q := h.length) (by omega) (by omega) rfl (by omega)) ?_
    rintro _ _ ⟨rfl, rfl⟩
    refine y_ret (r := some (.ref h.length)) dm_X9_dropped_11 rfl rfl rfl ?_
    exact ⟨_, rfl, h, scrS_rf h, hH, by rw [show d_drop v w = .inl 3 by unfold d_drop; rw [if_pos (by omega)]]; exact ares_f 3 (by omega) (by omega) (by omega)⟩
set_option maxRecDepth 20000 in
theorem pm_X9_fit : mj_mmof pg_ms 154 = some ((⟨"ArrayCalculator$TwoAct", "fit", "(LArrayCalculator$Value;LArrayCalculator$Value;)LArrayCalculator$Value;"⟩, prog_11_method_12_code, 6, (Option.some (Jvm.ClassFile.FieldType.object "ArrayCalculator$Value"))), 9, false, mj_dec prog_11_method_12_code) := rfl
theorem dm_X9_fit_0 : mj_dec prog_11_method_12_code 0 = some (.aload_n 0, 1) := by decide +kernel
theorem dm_X9_fit_1 : mj_dec prog_11_method_12_code 1 = some (.invokevirtual 140, 3) := by decide +kernel
theorem dm_X9_fit_4 : mj_dec prog_11_method_12_code 4 = some (.ifCond .ne 8, 3) := by decide +kernel
theorem dm_X9_fit_7 : mj_dec prog_11_method_12_code 7 = some (.iconst 3, 1) := by decide +kernel
theorem dm_X9_fit_8 : mj_dec prog_11_method_12_code 8 = some (.invokestatic 81, 3) := by decide +kernel
theorem dm_X9_fit_11 : mj_dec prog_11_method_12_code 11 = some (.areturn, 1) := by decide +kernel
theorem dm_X9_fit_12 : mj_dec prog_11_method_12_code 12 = some (.aload_n 0, 1) := by decide +kernel
theorem dm_X9_fit_13 : mj_dec prog_11_method_12_code 13 = some (.getfield 102, 3) := by decide +kernel
theorem dm_X9_fit_16 : mj_dec prog_11_method_12_code 16 = some (.iconst 1, 1) := by decide +kernel
theorem dm_X9_fit_17 : mj_dec prog_11_method_12_code 17 = some (.if_icmp .eq 32, 3) := by decide +kernel
theorem dm_X9_fit_20 : mj_dec prog_11_method_12_code 20 = some (.aload_n 0, 1) := by decide +kernel
theorem dm_X9_fit_21 : mj_dec prog_11_method_12_code 21 = some (.getfield 143, 3) := by decide +kernel
theorem dm_X9_fit_24 : mj_dec prog_11_method_12_code 24 = some (.ldc2_w 147, 3) := by decide +kernel
theorem dm_X9_fit_27 : mj_dec prog_11_method_12_code 27 = some (.lcmp, 1) := by decide +kernel
theorem dm_X9_fit_28 : mj_dec prog_11_method_12_code 28 = some (.ifCond .lt 21, 3) := by decide +kernel
theorem dm_X9_fit_31 : mj_dec prog_11_method_12_code 31 = some (.aload_n 0, 1) := by decide +kernel
theorem dm_X9_fit_32 : mj_dec prog_11_method_12_code 32 = some (.getfield 143, 3) := by decide +kernel
theorem dm_X9_fit_35 : mj_dec prog_11_method_12_code 35 = some (.ldc2_w 149, 3) := by decide +kernel
theorem dm_X9_fit_38 : mj_dec prog_11_method_12_code 38 = some (.lcmp, 1) := by decide +kernel
theorem dm_X9_fit_39 : mj_dec prog_11_method_12_code 39 = some (.ifCond .gt 10, 3) := by decide +kernel
theorem dm_X9_fit_42 : mj_dec prog_11_method_12_code 42 = some (.aload_n 1, 1) := by decide +kernel
theorem dm_X9_fit_43 : mj_dec prog_11_method_12_code 43 = some (.invokevirtual 91, 3) := by decide +kernel
theorem dm_X9_fit_46 : mj_dec prog_11_method_12_code 46 = some (.ifCond .ne 8, 3) := by decide +kernel
theorem dm_X9_fit_49 : mj_dec prog_11_method_12_code 49 = some (.iconst 5, 1) := by decide +kernel
theorem dm_X9_fit_50 : mj_dec prog_11_method_12_code 50 = some (.invokestatic 81, 3) := by decide +kernel
theorem dm_X9_fit_53 : mj_dec prog_11_method_12_code 53 = some (.areturn, 1) := by decide +kernel
theorem dm_X9_fit_54 : mj_dec prog_11_method_12_code 54 = some (.aload_n 0, 1) := by decide +kernel
theorem dm_X9_fit_55 : mj_dec prog_11_method_12_code 55 = some (.getfield 143, 3) := by decide +kernel
theorem dm_X9_fit_58 : mj_dec prog_11_method_12_code 58 = some (.invokestatic 151, 3) := by decide +kernel
theorem dm_X9_fit_61 : mj_dec prog_11_method_12_code 61 = some (.l2i, 1) := by decide +kernel
theorem dm_X9_fit_62 : mj_dec prog_11_method_12_code 62 = some (.newarray .long, 2) := by decide +kernel
theorem dm_X9_fit_64 : mj_dec prog_11_method_12_code 64 = some (.astore_n 2, 1) := by decide +kernel
theorem dm_X9_fit_65 : mj_dec prog_11_method_12_code 65 = some (.aload_n 0, 1) := by decide +kernel
theorem dm_X9_fit_66 : mj_dec prog_11_method_12_code 66 = some (.getfield 143, 3) := by decide +kernel
theorem dm_X9_fit_69 : mj_dec prog_11_method_12_code 69 = some (.lconst 0, 1) := by decide +kernel
theorem dm_X9_fit_70 : mj_dec prog_11_method_12_code 70 = some (.lcmp, 1) := by decide +kernel
theorem dm_X9_fit_71 : mj_dec prog_11_method_12_code 71 = some (.ifCond .ge 13, 3) := by decide +kernel
theorem dm_X9_fit_74 : mj_dec prog_11_method_12_code 74 = some (.aload_n 1, 1) := by decide +kernel
theorem dm_X9_fit_75 : mj_dec prog_11_method_12_code 75 = some (.getfield 94, 3) := by decide +kernel
theorem dm_X9_fit_78 : mj_dec prog_11_method_12_code 78 = some (.aload_n 2, 1) := by decide +kernel
theorem dm_X9_fit_79 : mj_dec prog_11_method_12_code 79 = some (.arraylength, 1) := by decide +kernel
theorem dm_X9_fit_80 : mj_dec prog_11_method_12_code 80 = some (.isub, 1) := by decide +kernel
theorem dm_X9_fit_81 : mj_dec prog_11_method_12_code 81 = some (.goto 4, 3) := by decide +kernel
theorem dm_X9_fit_84 : mj_dec prog_11_method_12_code 84 = some (.iconst 0, 1) := by decide +kernel
theorem dm_X9_fit_85 : mj_dec prog_11_method_12_code 85 = some (.istore_n 3, 1) := by decide +kernel
theorem dm_X9_fit_86 : mj_dec prog_11_method_12_code 86 = some (.iconst 0, 1) := by decide +kernel
theorem dm_X9_fit_87 : mj_dec prog_11_method_12_code 87 = some (.istore 4, 2) := by decide +kernel
theorem dm_X9_fit_89 : mj_dec prog_11_method_12_code 89 = some (.iload 4, 2) := by decide +kernel
theorem dm_X9_fit_91 : mj_dec prog_11_method_12_code 91 = some (.aload_n 2, 1) := by decide +kernel
theorem dm_X9_fit_92 : mj_dec prog_11_method_12_code 92 = some (.arraylength, 1) := by decide +kernel
theorem dm_X9_fit_93 : mj_dec prog_11_method_12_code 93 = some (.if_icmp .ge 45, 3) := by decide +kernel
theorem dm_X9_fit_96 : mj_dec prog_11_method_12_code 96 = some (.iload 4, 2) := by decide +kernel
theorem dm_X9_fit_98 : mj_dec prog_11_method_12_code 98 = some (.iload_n 3, 1) := by decide +kernel
theorem dm_X9_fit_99 : mj_dec prog_11_method_12_code 99 = some (.iadd, 1) := by decide +kernel
theorem dm_X9_fit_100 : mj_dec prog_11_method_12_code 100 = some (.istore 5, 2) := by decide +kernel
theorem dm_X9_fit_102 : mj_dec prog_11_method_12_code 102 = some (.aload_n 2, 1) := by decide +kernel
theorem dm_X9_fit_103 : mj_dec prog_11_method_12_code 103 = some (.iload 4, 2) := by decide +kernel
theorem dm_X9_fit_105 : mj_dec prog_11_method_12_code 105 = some (.iload 5, 2) := by decide +kernel
theorem dm_X9_fit_107 : mj_dec prog_11_method_12_code 107 = some (.ifCond .lt 21, 3) := by decide +kernel
theorem dm_X9_fit_110 : mj_dec prog_11_method_12_code 110 = some (.iload 5, 2) := by decide +kernel
theorem dm_X9_fit_112 : mj_dec prog_11_method_12_code 112 = some (.aload_n 1, 1) := by decide +kernel
theorem dm_X9_fit_113 : mj_dec prog_11_method_12_code 113 = some (.getfield 94, 3) := by decide +kernel
theorem dm_X9_fit_116 : mj_dec prog_11_method_12_code 116 = some (.if_icmp .ge 12, 3) := by decide +kernel
theorem dm_X9_fit_119 : mj_dec prog_11_method_12_code 119 = some (.aload_n 1, 1) := by decide +kernel
theorem dm_X9_fit_120 : mj_dec prog_11_method_12_code 120 = some (.iload 5, 2) := by decide +kernel
theorem dm_X9_fit_122 : mj_dec prog_11_method_12_code 122 = some (.invokevirtual 129, 3) := by decide +kernel
theorem dm_X9_fit_125 : mj_dec prog_11_method_12_code 125 = some (.goto 6, 3) := by decide +kernel
theorem dm_X9_fit_128 : mj_dec prog_11_method_12_code 128 = some (.ldc2_w 195, 3) := by decide +kernel
theorem dm_X9_fit_131 : mj_dec prog_11_method_12_code 131 = some (.lastore, 1) := by decide +kernel
theorem dm_X9_fit_132 : mj_dec prog_11_method_12_code 132 = some (.iinc 4 1, 3) := by decide +kernel
theorem dm_X9_fit_135 : mj_dec prog_11_method_12_code 135 = some (.goto (-46), 3) := by decide +kernel
theorem dm_X9_fit_138 : mj_dec prog_11_method_12_code 138 = some (.iconst 3, 1) := by decide +kernel
theorem dm_X9_fit_139 : mj_dec prog_11_method_12_code 139 = some (.aload_n 2, 1) := by decide +kernel
theorem dm_X9_fit_140 : mj_dec prog_11_method_12_code 140 = some (.invokestatic 105, 3) := by decide +kernel
theorem dm_X9_fit_143 : mj_dec prog_11_method_12_code 143 = some (.areturn, 1) := by decide +kernel
theorem t_fit {xt : mj_X} {d e p q : Nat} {A : Nat → Prop} {h : mj_H} {v w : VV} {f1 : Nat → Value} (hx1 : xt 1 = some (.long, 0, f1)) (hd : 8 ≤ d) (hl : 127 ≤ h.length) (hA : okA A h) (hH : actH h) (hv : cv A h (e + 1) p v) (hw : cv A h (e + 1) q w) (he : e ≤ 20) (hset : vsz (e + 1) v ≤ 1000) (hset2 : vsz (e + 1) w ≤ 1000) : pgV xt d 154 [.ref p, .ref q] h (aact A h (e + 1) (d_fit v w) 2 (min 120 (vn v 0).toInt.natAbs + 9)) := by
  obtain ⟨-, -, -, -, -, -, -, -, ⟨ft0, h26⟩, -, -, ⟨pf0, h29⟩, ⟨nf0, h30⟩, ⟨uf0, h31⟩⟩ := id hH
  have hcv := vw1_c hv.1
  have hcw := vw1_c hw.1
  obtain ⟨row, fr, vals, hp, hp2, hpA, hvk, hvm, hvc, hvs, hvl⟩ := cv_val hv
  obtain ⟨row2, fr2, vals2, hq, hq2, hqA, hwk, hwm, hwc, hws, hwl⟩ := cv_val hw
  have hpb := hA p hpA
  have hqb := hA q hqA
  have h0 : (Int64.ofInt 0).toInt = 0 := by decide
  have h120 : (Int64.ofInt 120).toInt = 120 := by decide
  have h120m : (Int64.ofInt (-120)).toInt = -120 := by decide
  have hvn0 : vk v ≤ 1 → vn v 0 = cnum v := fun z => by unfold cnum; rw [if_pos z]
  refine x_enter pm_X9_fit (L0 := [(0, .ref p), (1, .ref q)]) rfl (Nat.le_of_ble_eq_true rfl) (by omega) ?_
  refine me1 (pc' := 1) (L' := [(0, .ref p), (1, .ref q)]) (S' := [.ref p]) dm_X9_fit_0 rfl rfl rfl rfl ?_
  refine x_cp (pc' := 4) (v := zz (decide (vk v ≤ 1))) (rest := []) dm_X9_fit_1 rfl (g_inv (As := []) (S := []) hp rfl rfl rfl (by omega)) rfl rfl rfl (c_isOne (by omega) hv) ?_
  refine y_zne (c := decide (vk v ≤ 1)) (t := 12) (pc' := 7) dm_X9_fit_4 rfl rfl (fun hb1 => ?_) (fun hb1 => ?_)
  · replace hb1 := dT hb1
    refine me1 (pc' := 13) (L' := [(0, .ref p), (1, .ref q)]) (S' := [.ref p]) dm_X9_fit_12 rfl rfl rfl rfl ?_
    refine me3 (pc' := 16) (S' := [ii (vk v : Int)]) dm_X9_fit_13 (g_get (v := ii (vk v : Int)) hp rfl rfl (by omega)) rfl rfl rfl ?_
    refine me0 (pc' := 17) (S' := [ii 1, ii (vk v : Int)]) dm_X9_fit_16 rfl rfl rfl rfl ?_
    refine y_2eq (a := (vk v : Int)) (b := 1) (t := 49) (pc' := 20) dm_X9_fit_17 rfl rfl (by omega) (fun hb2 => ?_) (fun hb2 => ?_)
    · refine me0 (pc' := 50) (S' := [ii 5]) dm_X9_fit_49 rfl rfl rfl rfl ?_
      refine x_cv (pc' := 53) (rest := []) dm_X9_fit_50 rfl (g_invs (As := [ii 5]) (S := []) rfl rfl rfl) rfl rfl rfl (c_fault (q := h.length) (by omega) (by omega) rfl (by omega)) ?_
      rintro _ _ ⟨rfl, rfl⟩
      refine y_ret (r := some (.ref h.length)) dm_X9_fit_53 rfl rfl rfl ?_
      exact ⟨_, rfl, h, scrS_rf h, hH, by rw [show d_fit v w = .inl 5 by unfold d_fit; rw [if_neg (by omega), if_pos (by rw [hvn0 (by omega)]; rw [h120, h120m] at *; omega)]]; exact ares_f 5 (by omega) (by omega) (by omega)⟩
    · refine me1 (pc' := 21) (L' := [(0, .ref p), (1, .ref q)]) (S' := [.ref p]) dm_X9_fit_20 rfl rfl rfl rfl ?_
      refine me3 (pc' := 24) (S' := [.long (cnum v)]) dm_X9_fit_21 (g_get (v := .long (cnum v)) hp rfl rfl (by omega)) rfl rfl rfl ?_
      refine me3 (pc' := 27) (S' := [.long (Int64.ofInt (-120)), .long (cnum v)]) dm_X9_fit_24 rfl rfl rfl rfl ?_
      refine y_llt (x := cnum v) (y := Int64.ofInt (-120)) (t := 49) (pc1 := 28) (pc' := 31) dm_X9_fit_27 rfl dm_X9_fit_28 rfl rfl (fun hb3 => ?_) (fun hb3 => ?_)
      · refine me0 (pc' := 50) (S' := [ii 5]) dm_X9_fit_49 rfl rfl rfl rfl ?_
        refine x_cv (pc' := 53) (rest := []) dm_X9_fit_50 rfl (g_invs (As := [ii 5]) (S := []) rfl rfl rfl) rfl rfl rfl (c_fault (q := h.length) (by omega) (by omega) rfl (by omega)) ?_
        rintro _ _ ⟨rfl, rfl⟩
        refine y_ret (r := some (.ref h.length)) dm_X9_fit_53 rfl rfl rfl ?_
        exact ⟨_, rfl, h, scrS_rf h, hH, by rw [show d_fit v w = .inl 5 by unfold d_fit; rw [if_neg (by omega), if_pos (by rw [hvn0 (by omega)]; rw [h120, h120m] at *; omega)]]; exact ares_f 5 (by omega) (by omega) (by omega)⟩
      · refine me1 (pc' := 32) (L' := [(0, .ref p), (1, .ref q)]) (S' := [.ref p]) dm_X9_fit_31 rfl rfl rfl rfl ?_
        refine me3 (pc' := 35) (S' := [.long (cnum v)]) dm_X9_fit_32 (g_get (v := .long (cnum v)) hp rfl rfl (by omega)) rfl rfl rfl ?_
        refine me3 (pc' := 38) (S' := [.long (Int64.ofInt 120), .long (cnum v)]) dm_X9_fit_35 rfl rfl rfl rfl ?_
        refine y_lgt (x := cnum v) (y := Int64.ofInt 120) (t := 49) (pc1 := 39) (pc' := 42) dm_X9_fit_38 rfl dm_X9_fit_39 rfl rfl (fun hb4 => ?_) (fun hb4 => ?_)
        · refine me0 (pc' := 50) (S' := [ii 5]) dm_X9_fit_49 rfl rfl rfl rfl ?_
          refine x_cv (pc' := 53) (rest := []) dm_X9_fit_50 rfl (g_invs (As := [ii 5]) (S := []) rfl rfl rfl) rfl rfl rfl (c_fault (q := h.length) (by omega) (by omega) rfl (by omega)) ?_
          rintro _ _ ⟨rfl, rfl⟩
          refine y_ret (r := some (.ref h.length)) dm_X9_fit_53 rfl rfl rfl ?_
          exact ⟨_, rfl, h, scrS_rf h, hH, by rw [show d_fit v w = .inl 5 by unfold d_fit; rw [if_neg (by omega), if_pos (by rw [hvn0 (by omega)]; rw [h120, h120m] at *; omega)]]; exact ares_f 5 (by omega) (by omega) (by omega)⟩
        · refine me1 (pc' := 43) (L' := [(0, .ref p), (1, .ref q)]) (S' := [.ref q]) dm_X9_fit_42 rfl rfl rfl rfl ?_
          refine x_cp (pc' := 46) (v := zz (decide (vk w = 1 ∨ vk w = 3))) (rest := []) dm_X9_fit_43 rfl (g_inv (As := []) (S := []) hq rfl rfl rfl (by omega)) rfl rfl rfl (c_ofSigns (by omega) hw) ?_
          refine y_zne (c := decide (vk w = 1 ∨ vk w = 3)) (t := 54) (pc' := 49) dm_X9_fit_46 rfl rfl (fun hb5 => ?_) (fun hb5 => ?_)
          · replace hb5 := dT hb5
            refine me1 (pc' := 55) (L' := [(0, .ref p), (1, .ref q)]) (S' := [.ref p]) dm_X9_fit_54 rfl rfl rfl rfl ?_
            refine me3 (pc' := 58) (S' := [.long (cnum v)]) dm_X9_fit_55 (g_get (v := .long (cnum v)) hp rfl rfl (by omega)) rfl rfl rfl ?_
            refine y_pr (i := .iadd) (pc' := 61) (S' := [.long (lab (cnum v))]) dm_X9_fit_58 rfl (p_labs rfl) (by omega) rfl ?_
            have hvn : vn v 0 = cnum v := by unfold cnum; rw [if_pos (by omega)]
            have hrg : -120 ≤ (cnum v).toInt ∧ (cnum v).toInt ≤ 120 := by rw [h120, h120m] at *; omega
            obtain ⟨n, hn⟩ : ∃ n : Nat, (vn v 0).toInt.natAbs = n := ⟨_, rfl⟩
            have hn120 : n ≤ 120 := by rw [hvn] at hn; omega
            have hfs : -120 ≤ fshift v w ∧ fshift v w ≤ 120 := by unfold fshift; split <;> omega
            refine y_l2i (a := (n : Int)) dm_X9_fit_61 (pc' := 62) rfl (n_l2i _ (by rw [lab_i _ (by omega) (by omega), ← hvn, hn])) ?_
            refine me3 (pc' := 64) (S' := [.ref h.length]) (h1 := h ++ [cJ n (fun _ => 0)]) dm_X9_fit_62 (yh_newJ (by omega) (by omega) (by omega) rfl) rfl rfl rfl ?_
            refine me1 (pc' := 65) (L' := [(2, .ref h.length), (0, .ref p), (1, .ref q)]) (S' := []) dm_X9_fit_64 rfl rfl rfl rfl ?_
            refine me1 (pc' := 66) (L' := [(2, .ref h.length), (0, .ref p), (1, .ref q)]) (S' := [.ref p]) dm_X9_fit_65 rfl rfl rfl rfl ?_
            refine me3 (pc' := 69) (S' := [.long (cnum v)]) dm_X9_fit_66 (g_get (v := .long (cnum v)) (hl_app hp) rfl rfl (by omega)) rfl rfl rfl ?_
            refine me0 (pc' := 70) (S' := [.long (Int64.ofInt 0), .long (cnum v)]) dm_X9_fit_69 rfl rfl rfl rfl ?_
            refine y_lge (x := cnum v) (y := Int64.ofInt 0) (t := 84) (pc1 := 71) (pc' := 74) dm_X9_fit_70 rfl dm_X9_fit_71 rfl rfl (fun hb6 => ?_) (fun hb6 => ?_)
            · rw [← hvn] at hb6
              refine me0 (pc' := 85) (S' := [ii 0]) dm_X9_fit_84 rfl rfl rfl rfl ?_
              refine pg_st0 (S' := [ii (fshift v w)]) (congrArg (fun z => ii z :: []) (by unfold fshift; first | rw [if_pos (by rw [h0] at *; omega), hn] | rw [if_neg (by rw [h0] at *; omega)])) ?_
              refine me1 (pc' := 86) (L' := [(3, ii (fshift v w)), (2, .ref h.length), (0, .ref p), (1, .ref q)]) (S' := []) dm_X9_fit_85 rfl rfl rfl rfl ?_
              refine me0 (pc' := 87) (S' := [ii 0]) dm_X9_fit_86 rfl rfl rfl rfl ?_
              refine me1 (pc' := 89) (L' := [(4, ii 0), (3, ii (fshift v w)), (2, .ref h.length), (0, .ref p), (1, .ref q)]) (S' := []) dm_X9_fit_87 rfl rfl rfl rfl ?_
              have lp89 : ∀ (n89 : Nat) (k : Nat) (G : Nat → Int64), n - k = n89 → (k ≤ n) → (∀ j, j < k → G j = fsign v w j) → pgE xt (d - 1) 9 6 false (Option.some (Jvm.ClassFile.FieldType.object "ArrayCalculator$Value")) (mj_dec prog_11_method_12_code) 89 [(0, .ref p), (1, .ref q), (2, .ref h.length), (3, ii (fshift v w)), (4, ii (k : Int))] [] (h ++ [cJ n G]) (fun r h' => ∃ x, r = some x ∧ aact A h (e + 1) (d_fit v w) 2 (min 120 (vn v 0).toInt.natAbs + 9) x h') := by
                intro n89
                induction n89 using Nat.strongRecOn with
                | ind n89 ih89 =>
                  intro k G hm89 hk hG
                  refine me1 (pc' := 91) (L' := [(0, .ref p), (1, .ref q), (2, .ref h.length), (3, ii (fshift v w)), (4, ii (k : Int))]) (S' := [ii (k : Int)]) dm_X9_fit_89 rfl rfl rfl rfl ?_
                  refine me1 (pc' := 92) (L' := [(0, .ref p), (1, .ref q), (2, .ref h.length), (3, ii (fshift v w)), (4, ii (k : Int))]) (S' := [.ref h.length, ii (k : Int)]) dm_X9_fit_91 rfl rfl rfl rfl ?_
                  refine me3 (pc' := 93) (S' := [ii n, ii (k : Int)]) dm_X9_fit_92 (yh_len (n := n) rfl hl_new (by omega)) rfl rfl rfl ?_
                  refine y_2ge (a := (k : Int)) (b := n) (t := 138) (pc' := 96) dm_X9_fit_93 rfl rfl (by omega) (fun hb7 => ?_) (fun hb7 => ?_)
                  · refine me0 (pc' := 139) (S' := [ii 3]) dm_X9_fit_138 rfl rfl rfl rfl ?_
                    refine me1 (pc' := 140) (L' := [(0, .ref p), (1, .ref q), (2, .ref h.length), (3, ii (fshift v w)), (4, ii (k : Int))]) (S' := [.ref h.length, ii 3]) dm_X9_fit_139 rfl rfl rfl rfl ?_
                    refine x_cv (pc' := 143) (rest := []) dm_X9_fit_140 rfl (g_invs (As := [ii 3, .ref h.length]) (S := []) rfl rfl rfl) rfl rfl rfl (c_row (hx1 := hx1) (q := h.length + 1) (by omega) (by simp; omega) (by simp) (by omega) (show rowAt (fun _ => True) _ _ _ _ from Or.inr ⟨by omega, hl_new, by omega, trivial⟩) (by omega)) ?_
                    rintro _ _ ⟨rfl, rfl⟩
                    refine y_ret (r := some (.ref (h.length + 1))) dm_X9_fit_143 rfl rfl rfl ?_
                    have hkn : k = n := by omega
                    subst hkn
                    refine ⟨_, rfl, h, scrS_rf h, hH, ?_⟩
                    rw [show d_fit v w = .inr (vrow 3 k (fsign v w)) by unfold d_fit; rw [if_neg (by omega), if_neg (by rw [hvn]; omega), hn]]
                    exact vres_flat (w := vrow 3 k (fsign v w)) (by omega) (vw1_row (by omega) (by omega) hn120) (by show 2 ≤ 3; omega) (by show 3 ≤ 6; omega) (vq_row (by omega)) (fun j hj => hG j hj) (by omega) (by omega)
                  · refine me1 (pc' := 98) (L' := [(0, .ref p), (1, .ref q), (2, .ref h.length), (3, ii (fshift v w)), (4, ii (k : Int))]) (S' := [ii (k : Int)]) dm_X9_fit_96 rfl rfl rfl rfl ?_
                    refine me1 (pc' := 99) (L' := [(0, .ref p), (1, .ref q), (2, .ref h.length), (3, ii (fshift v w)), (4, ii (k : Int))]) (S' := [ii (fshift v w), ii (k : Int)]) dm_X9_fit_98 rfl rfl rfl rfl ?_
                    refine y_iadd (a := (k : Int)) (b := fshift v w) dm_X9_fit_99 (pc' := 100) rfl ?_
                    refine me1 (pc' := 102) (L' := [(5, ii ((k : Int) + (fshift v w))), (0, .ref p), (1, .ref q), (2, .ref h.length), (3, ii (fshift v w)), (4, ii (k : Int))]) (S' := []) dm_X9_fit_100 rfl rfl rfl rfl ?_
                    refine me1 (pc' := 103) (L' := [(5, ii ((k : Int) + (fshift v w))), (0, .ref p), (1, .ref q), (2, .ref h.length), (3, ii (fshift v w)), (4, ii (k : Int))]) (S' := [.ref h.length]) dm_X9_fit_102 rfl rfl rfl rfl ?_
                    refine me1 (pc' := 105) (L' := [(5, ii ((k : Int) + (fshift v w))), (0, .ref p), (1, .ref q), (2, .ref h.length), (3, ii (fshift v w)), (4, ii (k : Int))]) (S' := [ii (k : Int), .ref h.length]) dm_X9_fit_103 rfl rfl rfl rfl ?_
                    refine me1 (pc' := 107) (L' := [(5, ii ((k : Int) + (fshift v w))), (0, .ref p), (1, .ref q), (2, .ref h.length), (3, ii (fshift v w)), (4, ii (k : Int))]) (S' := [ii ((k : Int) + (fshift v w)), ii (k : Int), .ref h.length]) dm_X9_fit_105 rfl rfl rfl rfl ?_
                    refine y_1lt (a := (k : Int) + (fshift v w)) (t := 128) (pc' := 110) dm_X9_fit_107 rfl rfl (by omega) (fun hb8 => ?_) (fun hb8 => ?_)
                    · refine me3 (pc' := 131) (S' := [.long (Int64.ofInt 32), ii (k : Int), .ref h.length]) dm_X9_fit_128 rfl rfl rfl rfl ?_
                      refine me3 (pc' := 132) (S' := []) (h1 := h ++ [cJ n (va_up G k (Int64.ofInt 32))]) dm_X9_fit_131 (y_hs (yh_last (j := (k : Int)) hl_new (by omega) (by omega) (by omega) (by omega)) (by rw [show (k : Int).toNat = k from rfl]; exact (hl_setl))) rfl rfl rfl ?_
                      refine y_iinc (pc' := 135) (L' := [(4, ii ((k : Int) + 1)), (5, ii ((k : Int) + (fshift v w))), (0, .ref p), (1, .ref q), (2, .ref h.length), (3, ii (fshift v w))]) dm_X9_fit_132 (y_incp (a := (k : Int)) (c := 1) rfl rfl (by decide)) rfl ?_
                      refine me2 (pc' := 89) (S' := []) dm_X9_fit_135 rfl rfl rfl ?_
                      exact pg_sub (L := [(0, .ref p), (1, .ref q), (2, .ref h.length), (3, ii (fshift v w)), (4, ii ((k + 1) : Int))]) rfl rfl rfl (ih89 (n - (k + 1)) (by omega) (k + 1) (va_up G k (Int64.ofInt 32)) rfl (by omega) (fun j hj => by rw [up_at]; by_cases z : j = k; (subst z; rw [if_pos rfl]; unfold fsign; first | rw [if_pos (by omega)] | rw [if_neg (by omega)]); (rw [if_neg z]; exact hG j (by omega))))
                    · refine me1 (pc' := 112) (L' := [(5, ii ((k : Int) + (fshift v w))), (0, .ref p), (1, .ref q), (2, .ref h.length), (3, ii (fshift v w)), (4, ii (k : Int))]) (S' := [ii ((k : Int) + (fshift v w)), ii (k : Int), .ref h.length]) dm_X9_fit_110 rfl rfl rfl rfl ?_
                      refine me1 (pc' := 113) (L' := [(5, ii ((k : Int) + (fshift v w))), (0, .ref p), (1, .ref q), (2, .ref h.length), (3, ii (fshift v w)), (4, ii (k : Int))]) (S' := [.ref q, ii ((k : Int) + (fshift v w)), ii (k : Int), .ref h.length]) dm_X9_fit_112 rfl rfl rfl rfl ?_
                      refine me3 (pc' := 116) (S' := [ii (vm w : Int), ii ((k : Int) + (fshift v w)), ii (k : Int), .ref h.length]) dm_X9_fit_113 (g_get (v := ii (vm w : Int)) (hl_app hq) rfl rfl (by omega)) rfl rfl rfl ?_
                      refine y_2ge (a := (k : Int) + (fshift v w)) (b := (vm w : Int)) (t := 128) (pc' := 119) dm_X9_fit_116 rfl rfl (by omega) (fun hb9 => ?_) (fun hb9 => ?_)
                      · refine me3 (pc' := 131) (S' := [.long (Int64.ofInt 32), ii (k : Int), .ref h.length]) dm_X9_fit_128 rfl rfl rfl rfl ?_
                        refine me3 (pc' := 132) (S' := []) (h1 := h ++ [cJ n (va_up G k (Int64.ofInt 32))]) dm_X9_fit_131 (y_hs (yh_last (j := (k : Int)) hl_new (by omega) (by omega) (by omega) (by omega)) (by rw [show (k : Int).toNat = k from rfl]; exact (hl_setl))) rfl rfl rfl ?_
                        refine y_iinc (pc' := 135) (L' := [(4, ii ((k : Int) + 1)), (5, ii ((k : Int) + (fshift v w))), (0, .ref p), (1, .ref q), (2, .ref h.length), (3, ii (fshift v w))]) dm_X9_fit_132 (y_incp (a := (k : Int)) (c := 1) rfl rfl (by decide)) rfl ?_
                        refine me2 (pc' := 89) (S' := []) dm_X9_fit_135 rfl rfl rfl ?_
                        exact pg_sub (L := [(0, .ref p), (1, .ref q), (2, .ref h.length), (3, ii (fshift v w)), (4, ii ((k + 1) : Int))]) rfl rfl rfl (ih89 (n - (k + 1)) (by omega) (k + 1) (va_up G k (Int64.ofInt 32)) rfl (by omega) (fun j hj => by rw [up_at]; by_cases z : j = k; (subst z; rw [if_pos rfl]; unfold fsign; first | rw [if_pos (by omega)] | rw [if_neg (by omega)]); (rw [if_neg z]; exact hG j (by omega))))
                      · refine me1 (pc' := 120) (L' := [(5, ii ((k : Int) + (fshift v w))), (0, .ref p), (1, .ref q), (2, .ref h.length), (3, ii (fshift v w)), (4, ii (k : Int))]) (S' := [.ref q, ii (k : Int), .ref h.length]) dm_X9_fit_119 rfl rfl rfl rfl ?_
                        refine me1 (pc' := 122) (L' := [(5, ii ((k : Int) + (fshift v w))), (0, .ref p), (1, .ref q), (2, .ref h.length), (3, ii (fshift v w)), (4, ii (k : Int))]) (S' := [ii ((k : Int) + (fshift v w)), .ref q, ii (k : Int), .ref h.length]) dm_X9_fit_120 rfl rfl rfl rfl ?_
                        refine x_cp (pc' := 125) (v := .long (vnum w ((k : Int) + (fshift v w)))) (rest := [ii (k : Int), .ref h.length]) dm_X9_fit_122 rfl (g_inv (As := [ii ((k : Int) + (fshift v w))]) (S := [ii (k : Int), .ref h.length]) (hl_app hq) rfl rfl rfl (by omega)) rfl rfl rfl (c_numberAt (i := (k : Int) + (fshift v w)) hx1 (by omega) (cv_app hw) (by omega)) ?_
                        refine me2 (pc' := 131) (S' := [.long (vnum w ((k : Int) + (fshift v w))), ii (k : Int), .ref h.length]) dm_X9_fit_125 rfl rfl rfl ?_
                        refine me3 (pc' := 132) (S' := []) (h1 := h ++ [cJ n (va_up G k (vnum w ((k : Int) + (fshift v w))))]) dm_X9_fit_131 (y_hs (yh_last (j := (k : Int)) hl_new (by omega) (by omega) (by omega) (by omega)) (by rw [show (k : Int).toNat = k from rfl]; exact (hl_setl))) rfl rfl rfl ?_
                        refine y_iinc (pc' := 135) (L' := [(4, ii ((k : Int) + 1)), (5, ii ((k : Int) + (fshift v w))), (0, .ref p), (1, .ref q), (2, .ref h.length), (3, ii (fshift v w))]) dm_X9_fit_132 (y_incp (a := (k : Int)) (c := 1) rfl rfl (by decide)) rfl ?_
                        refine me2 (pc' := 89) (S' := []) dm_X9_fit_135 rfl rfl rfl ?_
                        exact pg_sub (L := [(0, .ref p), (1, .ref q), (2, .ref h.length), (3, ii (fshift v w)), (4, ii ((k + 1) : Int))]) rfl rfl rfl (ih89 (n - (k + 1)) (by omega) (k + 1) (va_up G k (vnum w ((k : Int) + (fshift v w)))) rfl (by omega) (fun j hj => by rw [up_at]; by_cases z : j = k; (subst z; rw [if_pos rfl]; unfold fsign; first | rw [if_pos (by omega)] | rw [if_neg (by omega)]); (rw [if_neg z]; exact hG j (by omega))))
              exact pg_sub (L := [(0, .ref p), (1, .ref q), (2, .ref h.length), (3, ii (fshift v w)), (4, ii (0 : Int))]) rfl rfl rfl (lp89 _ 0 (fun _ => 0) rfl (Nat.zero_le _) (fun j hj => absurd hj (Nat.not_lt_zero j)))
            · rw [← hvn] at hb6
              refine me1 (pc' := 75) (L' := [(2, .ref h.length), (0, .ref p), (1, .ref q)]) (S' := [.ref q]) dm_X9_fit_74 rfl rfl rfl rfl ?_
              refine me3 (pc' := 78) (S' := [ii (vm w : Int)]) dm_X9_fit_75 (g_get (v := ii (vm w : Int)) (hl_app hq) rfl rfl (by omega)) rfl rfl rfl ?_
              refine me1 (pc' := 79) (L' := [(2, .ref h.length), (0, .ref p), (1, .ref q)]) (S' := [.ref h.length, ii (vm w : Int)]) dm_X9_fit_78 rfl rfl rfl rfl ?_
              refine me3 (pc' := 80) (S' := [ii n, ii (vm w : Int)]) dm_X9_fit_79 (yh_len (n := n) rfl hl_new (by omega)) rfl rfl rfl ?_
              refine y_isub (a := (vm w : Int)) (b := n) dm_X9_fit_80 (pc' := 81) rfl ?_
              refine me2 (pc' := 85) (S' := [ii ((vm w : Int) - n)]) dm_X9_fit_81 rfl rfl rfl ?_
              refine pg_st0 (S' := [ii (fshift v w)]) (congrArg (fun z => ii z :: []) (by unfold fshift; first | rw [if_pos (by rw [h0] at *; omega), hn] | rw [if_neg (by rw [h0] at *; omega)])) ?_
              refine me1 (pc' := 86) (L' := [(3, ii (fshift v w)), (2, .ref h.length), (0, .ref p), (1, .ref q)]) (S' := []) dm_X9_fit_85 rfl rfl rfl rfl ?_
              refine me0 (pc' := 87) (S' := [ii 0]) dm_X9_fit_86 rfl rfl rfl rfl ?_
              refine me1 (pc' := 89) (L' := [(4, ii 0), (3, ii (fshift v w)), (2, .ref h.length), (0, .ref p), (1, .ref q)]) (S' := []) dm_X9_fit_87 rfl rfl rfl rfl ?_
              have lp89 : ∀ (n89 : Nat) (k : Nat) (G : Nat → Int64), n - k = n89 → (k ≤ n) → (∀ j, j < k → G j = fsign v w j) → pgE xt (d - 1) 9 6 false (Option.some (Jvm.ClassFile.FieldType.object "ArrayCalculator$Value")) (mj_dec prog_11_method_12_code) 89 [(0, .ref p), (1, .ref q), (2, .ref h.length), (3, ii (fshift v w)), (4, ii (k : Int))] [] (h ++ [cJ n G]) (fun r h' => ∃ x, r = some x ∧ aact A h (e + 1) (d_fit v w) 2 (min 120 (vn v 0).toInt.natAbs + 9) x h') := by
                intro n89
                induction n89 using Nat.strongRecOn with
                | ind n89 ih89 =>
                  intro k G hm89 hk hG
                  refine me1 (pc' := 91) (L' := [(0, .ref p), (1, .ref q), (2, .ref h.length), (3, ii (fshift v w)), (4, ii (k : Int))]) (S' := [ii (k : Int)]) dm_X9_fit_89 rfl rfl rfl rfl ?_
                  refine me1 (pc' := 92) (L' := [(0, .ref p), (1, .ref q), (2, .ref h.length), (3, ii (fshift v w)), (4, ii (k : Int))]) (S' := [.ref h.length, ii (k : Int)]) dm_X9_fit_91 rfl rfl rfl rfl ?_
                  refine me3 (pc' := 93) (S' := [ii n, ii (k : Int)]) dm_X9_fit_92 (yh_len (n := n) rfl hl_new (by omega)) rfl rfl rfl ?_
                  refine y_2ge (a := (k : Int)) (b := n) (t := 138) (pc' := 96) dm_X9_fit_93 rfl rfl (by omega) (fun hb10 => ?_) (fun hb10 => ?_)
                  · refine me0 (pc' := 139) (S' := [ii 3]) dm_X9_fit_138 rfl rfl rfl rfl ?_
                    refine me1 (pc' := 140) (L' := [(0, .ref p), (1, .ref q), (2, .ref h.length), (3, ii (fshift v w)), (4, ii (k : Int))]) (S' := [.ref h.length, ii 3]) dm_X9_fit_139 rfl rfl rfl rfl ?_
                    refine x_cv (pc' := 143) (rest := []) dm_X9_fit_140 rfl (g_invs (As := [ii 3, .ref h.length]) (S := []) rfl rfl rfl) rfl rfl rfl (c_row (hx1 := hx1) (q := h.length + 1) (by omega) (by simp; omega) (by simp) (by omega) (show rowAt (fun _ => True) _ _ _ _ from Or.inr ⟨by omega, hl_new, by omega, trivial⟩) (by omega)) ?_
                    rintro _ _ ⟨rfl, rfl⟩
                    refine y_ret (r := some (.ref (h.length + 1))) dm_X9_fit_143 rfl rfl rfl ?_
                    have hkn : k = n := by omega
                    subst hkn
                    refine ⟨_, rfl, h, scrS_rf h, hH, ?_⟩
                    rw [show d_fit v w = .inr (vrow 3 k (fsign v w)) by unfold d_fit; rw [if_neg (by omega), if_neg (by rw [hvn]; omega), hn]]
                    exact vres_flat (w := vrow 3 k (fsign v w)) (by omega) (vw1_row (by omega) (by omega) hn120) (by show 2 ≤ 3; omega) (by show 3 ≤ 6; omega) (vq_row (by omega)) (fun j hj => hG j hj) (by omega) (by omega)
                  · refine me1 (pc' := 98) (L' := [(0, .ref p), (1, .ref q), (2, .ref h.length), (3, ii (fshift v w)), (4, ii (k : Int))]) (S' := [ii (k : Int)]) dm_X9_fit_96 rfl rfl rfl rfl ?_
                    refine me1 (pc' := 99) (L' := [(0, .ref p), (1, .ref q), (2, .ref h.length), (3, ii (fshift v w)), (4, ii (k : Int))]) (S' := [ii (fshift v w), ii (k : Int)]) dm_X9_fit_98 rfl rfl rfl rfl ?_
                    refine y_iadd (a := (k : Int)) (b := fshift v w) dm_X9_fit_99 (pc' := 100) rfl ?_
                    refine me1 (pc' := 102) (L' := [(5, ii ((k : Int) + (fshift v w))), (0, .ref p), (1, .ref q), (2, .ref h.length), (3, ii (fshift v w)), (4, ii (k : Int))]) (S' := []) dm_X9_fit_100 rfl rfl rfl rfl ?_
                    refine me1 (pc' := 103) (L' := [(5, ii ((k : Int) + (fshift v w))), (0, .ref p), (1, .ref q), (2, .ref h.length), (3, ii (fshift v w)), (4, ii (k : Int))]) (S' := [.ref h.length]) dm_X9_fit_102 rfl rfl rfl rfl ?_
                    refine me1 (pc' := 105) (L' := [(5, ii ((k : Int) + (fshift v w))), (0, .ref p), (1, .ref q), (2, .ref h.length), (3, ii (fshift v w)), (4, ii (k : Int))]) (S' := [ii (k : Int), .ref h.length]) dm_X9_fit_103 rfl rfl rfl rfl ?_
                    refine me1 (pc' := 107) (L' := [(5, ii ((k : Int) + (fshift v w))), (0, .ref p), (1, .ref q), (2, .ref h.length), (3, ii (fshift v w)), (4, ii (k : Int))]) (S' := [ii ((k : Int) + (fshift v w)), ii (k : Int), .ref h.length]) dm_X9_fit_105 rfl rfl rfl rfl ?_
                    refine y_1lt (a := (k : Int) + (fshift v w)) (t := 128) (pc' := 110) dm_X9_fit_107 rfl rfl (by omega) (fun hb11 => ?_) (fun hb11 => ?_)
                    · refine me3 (pc' := 131) (S' := [.long (Int64.ofInt 32), ii (k : Int), .ref h.length]) dm_X9_fit_128 rfl rfl rfl rfl ?_
                      refine me3 (pc' := 132) (S' := []) (h1 := h ++ [cJ n (va_up G k (Int64.ofInt 32))]) dm_X9_fit_131 (y_hs (yh_last (j := (k : Int)) hl_new (by omega) (by omega) (by omega) (by omega)) (by rw [show (k : Int).toNat = k from rfl]; exact (hl_setl))) rfl rfl rfl ?_
                      refine y_iinc (pc' := 135) (L' := [(4, ii ((k : Int) + 1)), (5, ii ((k : Int) + (fshift v w))), (0, .ref p), (1, .ref q), (2, .ref h.length), (3, ii (fshift v w))]) dm_X9_fit_132 (y_incp (a := (k : Int)) (c := 1) rfl rfl (by decide)) rfl ?_
                      refine me2 (pc' := 89) (S' := []) dm_X9_fit_135 rfl rfl rfl ?_
                      exact pg_sub (L := [(0, .ref p), (1, .ref q), (2, .ref h.length), (3, ii (fshift v w)), (4, ii ((k + 1) : Int))]) rfl rfl rfl (ih89 (n - (k + 1)) (by omega) (k + 1) (va_up G k (Int64.ofInt 32)) rfl (by omega) (fun j hj => by rw [up_at]; by_cases z : j = k; (subst z; rw [if_pos rfl]; unfold fsign; first | rw [if_pos (by omega)] | rw [if_neg (by omega)]); (rw [if_neg z]; exact hG j (by omega))))
                    · refine me1 (pc' := 112) (L' := [(5, ii ((k : Int) + (fshift v w))), (0, .ref p), (1, .ref q), (2, .ref h.length), (3, ii (fshift v w)), (4, ii (k : Int))]) (S' := [ii ((k : Int) + (fshift v w)), ii (k : Int), .ref h.length]) dm_X9_fit_110 rfl rfl rfl rfl ?_
                      refine me1 (pc' := 113) (L' := [(5, ii ((k : Int) + (fshift v w))), (0, .ref p), (1, .ref q), (2, .ref h.length), (3, ii (fshift v w)), (4, ii (k : Int))]) (S' := [.ref q, ii ((k : Int) + (fshift v w)), ii (k : Int), .ref h.length]) dm_X9_fit_112 rfl rfl rfl rfl ?_
                      refine me3 (pc' := 116) (S' := [ii (vm w : Int), ii ((k : Int) + (fshift v w)), ii (k : Int), .ref h.length]) dm_X9_fit_113 (g_get (v := ii (vm w : Int)) (hl_app hq) rfl rfl (by omega)) rfl rfl rfl ?_
                      refine y_2ge (a := (k : Int) + (fshift v w)) (b := (vm w : Int)) (t := 128) (pc' := 119) dm_X9_fit_116 rfl rfl (by omega) (fun hb12 => ?_) (fun hb12 => ?_)
                      · refine me3 (pc' := 131) (S' := [.long (Int64.ofInt 32), ii (k : Int), .ref h.length]) dm_X9_fit_128 rfl rfl rfl rfl ?_
                        refine me3 (pc' := 132) (S' := []) (h1 := h ++ [cJ n (va_up G k (Int64.ofInt 32))]) dm_X9_fit_131 (y_hs (yh_last (j := (k : Int)) hl_new (by omega) (by omega) (by omega) (by omega)) (by rw [show (k : Int).toNat = k from rfl]; exact (hl_setl))) rfl rfl rfl ?_
                        refine y_iinc (pc' := 135) (L' := [(4, ii ((k : Int) + 1)), (5, ii ((k : Int) + (fshift v w))), (0, .ref p), (1, .ref q), (2, .ref h.length), (3, ii (fshift v w))]) dm_X9_fit_132 (y_incp (a := (k : Int)) (c := 1) rfl rfl (by decide)) rfl ?_
                        refine me2 (pc' := 89) (S' := []) dm_X9_fit_135 rfl rfl rfl ?_
                        exact pg_sub (L := [(0, .ref p), (1, .ref q), (2, .ref h.length), (3, ii (fshift v w)), (4, ii ((k + 1) : Int))]) rfl rfl rfl (ih89 (n - (k + 1)) (by omega) (k + 1) (va_up G k (Int64.ofInt 32)) rfl (by omega) (fun j hj => by rw [up_at]; by_cases z : j = k; (subst z; rw [if_pos rfl]; unfold fsign; first | rw [if_pos (by omega)] | rw [if_neg (by omega)]); (rw [if_neg z]; exact hG j (by omega))))
                      · refine me1 (pc' := 120) (L' := [(5, ii ((k : Int) + (fshift v w))), (0, .ref p), (1, .ref q), (2, .ref h.length), (3, ii (fshift v w)), (4, ii (k : Int))]) (S' := [.ref q, ii (k : Int), .ref h.length]) dm_X9_fit_119 rfl rfl rfl rfl ?_
                        refine me1 (pc' := 122) (L' := [(5, ii ((k : Int) + (fshift v w))), (0, .ref p), (1, .ref q), (2, .ref h.length), (3, ii (fshift v w)), (4, ii (k : Int))]) (S' := [ii ((k : Int) + (fshift v w)), .ref q, ii (k : Int), .ref h.length]) dm_X9_fit_120 rfl rfl rfl rfl ?_
                        refine x_cp (pc' := 125) (v := .long (vnum w ((k : Int) + (fshift v w)))) (rest := [ii (k : Int), .ref h.length]) dm_X9_fit_122 rfl (g_inv (As := [ii ((k : Int) + (fshift v w))]) (S := [ii (k : Int), .ref h.length]) (hl_app hq) rfl rfl rfl (by omega)) rfl rfl rfl (c_numberAt (i := (k : Int) + (fshift v w)) hx1 (by omega) (cv_app hw) (by omega)) ?_
                        refine me2 (pc' := 131) (S' := [.long (vnum w ((k : Int) + (fshift v w))), ii (k : Int), .ref h.length]) dm_X9_fit_125 rfl rfl rfl ?_
                        refine me3 (pc' := 132) (S' := []) (h1 := h ++ [cJ n (va_up G k (vnum w ((k : Int) + (fshift v w))))]) dm_X9_fit_131 (y_hs (yh_last (j := (k : Int)) hl_new (by omega) (by omega) (by omega) (by omega)) (by rw [show (k : Int).toNat = k from rfl]; exact (hl_setl))) rfl rfl rfl ?_
                        refine y_iinc (pc' := 135) (L' := [(4, ii ((k : Int) + 1)), (5, ii ((k : Int) + (fshift v w))), (0, .ref p), (1, .ref q), (2, .ref h.length), (3, ii (fshift v w))]) dm_X9_fit_132 (y_incp (a := (k : Int)) (c := 1) rfl rfl (by decide)) rfl ?_
                        refine me2 (pc' := 89) (S' := []) dm_X9_fit_135 rfl rfl rfl ?_
                        exact pg_sub (L := [(0, .ref p), (1, .ref q), (2, .ref h.length), (3, ii (fshift v w)), (4, ii ((k + 1) : Int))]) rfl rfl rfl (ih89 (n - (k + 1)) (by omega) (k + 1) (va_up G k (vnum w ((k : Int) + (fshift v w)))) rfl (by omega) (fun j hj => by rw [up_at]; by_cases z : j = k; (subst z; rw [if_pos rfl]; unfold fsign; first | rw [if_pos (by omega)] | rw [if_neg (by omega)]); (rw [if_neg z]; exact hG j (by omega))))
              exact pg_sub (L := [(0, .ref p), (1, .ref q), (2, .ref h.length), (3, ii (fshift v w)), (4, ii (0 : Int))]) rfl rfl rfl (lp89 _ 0 (fun _ => 0) rfl (Nat.zero_le _) (fun j hj => absurd hj (Nat.not_lt_zero j)))
          · replace hb5 := dF hb5
            refine me0 (pc' := 50) (S' := [ii 5]) dm_X9_fit_49 rfl rfl rfl rfl ?_
            refine x_cv (pc' := 53) (rest := []) dm_X9_fit_50 rfl (g_invs (As := [ii 5]) (S := []) rfl rfl rfl) rfl rfl rfl (c_fault (q := h.length) (by omega) (by omega) rfl (by omega)) ?_
            rintro _ _ ⟨rfl, rfl⟩
            refine y_ret (r := some (.ref h.length)) dm_X9_fit_53 rfl rfl rfl ?_
            exact ⟨_, rfl, h, scrS_rf h, hH, by rw [show d_fit v w = .inl 5 by unfold d_fit; rw [if_neg (by omega), if_pos (by rw [hvn0 (by omega)]; rw [h120, h120m] at *; omega)]]; exact ares_f 5 (by omega) (by omega) (by omega)⟩
  · replace hb1 := dF hb1
    refine me0 (pc' := 8) (S' := [ii 3]) dm_X9_fit_7 rfl rfl rfl rfl ?_
    refine x_cv (pc' := 11) (rest := []) dm_X9_fit_8 rfl (g_invs (As := [ii 3]) (S := []) rfl rfl rfl) rfl rfl rfl (c_fault (q := h.length) (by omega) (by omega) rfl (by omega)) ?_
    rintro _ _ ⟨rfl, rfl⟩
    refine y_ret (r := some (.ref h.length)) dm_X9_fit_11 rfl rfl rfl ?_
    exact ⟨_, rfl, h, scrS_rf h, hH, by rw [show d_fit v w = .inl 3 by unfold d_fit; rw [if_pos (by omega)]]; exact ares_f 3 (by omega) (by omega) (by omega)⟩
