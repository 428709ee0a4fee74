def lmn (x y : Int64) : Int64 := if y < x then y else x
def lmx (x y : Int64) : Int64 := if y < x then x else y
def lab (x : Int64) : Int64 := if 0 < x then x else -x
section YP
variable {xt : mj_X} {d own nL : Nat} {ini : Bool} {ret : Option FieldType} {cf : Nat → Option (Instr × Nat)} {pc pc' x : Nat} {L : mj_L} {S : List Value} {h : mj_H} {P : Option Value → mj_H → Prop} {a b : Int} {u v : Int64}
theorem y_pr {i : Instr} {S S' : List Value} {op n c : Nat} (hc : cf pc = some (.invokestatic x, 3)) (hm : (mj_TTof pg_TL own).2 x = some (4, op, n, c)) (hs : mj_pr pg_tl 2 op S h = some (S', h)) (hd : 0 < d) (hp : pc + 3 = pc') (k : pgE xt d own nL ini ret cf pc' L S' h P) : pgE xt d own nL ini ret cf pc L S h P := by
  refine me4p (S' := S') (h1 := h) hc ?_ hd rfl rfl hp k
  show (match (mj_TTof pg_TL own).2 x with
    | some (4, op, _, _) => mj_pr pg_tl 2 op S h
    | _ => none) = _
  rw [hm]
  exact hs
theorem p_imax (h0 : -2147483648 ≤ a) (h1 : a ≤ 2147483647) (h2 : -2147483648 ≤ b) (h3 : b ≤ 2147483647) (hr : mj_room S = true) : mj_pr pg_tl 2 0 (ii b :: ii a :: S) h = some (ii (max a b) :: S, h) := by
  show (if mj_room S = true then some (Value.int (if Int32.ofInt a < Int32.ofInt b then Int32.ofInt b else Int32.ofInt a) :: S, h) else none) = _
  rw [if_pos hr]
  have e1 := n_to h0 h1
  have e2 := n_to h2 h3
  by_cases z : Int32.ofInt a < Int32.ofInt b
  · rw [if_pos z]
    rw [Int32.lt_iff_toInt_lt, e1, e2] at z
    rw [show max a b = b by omega]
  · rw [if_neg z]
    rw [Int32.lt_iff_toInt_lt, e1, e2] at z
    rw [show max a b = a by omega]
theorem p_imin (h0 : -2147483648 ≤ a) (h1 : a ≤ 2147483647) (h2 : -2147483648 ≤ b) (h3 : b ≤ 2147483647) (hr : mj_room S = true) : mj_pr pg_tl 2 1 (ii b :: ii a :: S) h = some (ii (min a b) :: S, h) := by
  show (if mj_room S = true then some (Value.int (if Int32.ofInt b < Int32.ofInt a then Int32.ofInt b else Int32.ofInt a) :: S, h) else none) = _
  rw [if_pos hr]
  have e1 := n_to h0 h1
  have e2 := n_to h2 h3
  by_cases z : Int32.ofInt b < Int32.ofInt a
  · rw [if_pos z]
    rw [Int32.lt_iff_toInt_lt, e1, e2] at z
    rw [show min a b = b by omega]
  · rw [if_neg z]
    rw [Int32.lt_iff_toInt_lt, e1, e2] at z
    rw [show min a b = a by omega]
theorem p_iabs (h0 : -2147483647 ≤ a) (h1 : a ≤ 2147483647) (hr : mj_room S = true) : mj_pr pg_tl 2 2 (ii a :: S) h = some (ii ((a.natAbs : Nat) : Int) :: S, h) := by
  show (if mj_room S = true then some (Value.int (if 0 ≤ Int32.ofInt a then Int32.ofInt a else 0 - Int32.ofInt a) :: S, h) else none) = _
  rw [if_pos hr]
  have e1 := n_to (a := a) (by omega) h1
  have e2 : (0 : Int32).toInt = 0 := rfl
  by_cases z : 0 ≤ Int32.ofInt a
  · rw [if_pos z]
    rw [Int32.le_iff_toInt_le, e1, e2] at z
    rw [show ((a.natAbs : Nat) : Int) = a by omega]
  · rw [if_neg z]
    rw [Int32.le_iff_toInt_le, e1, e2] at z
    rw [show ((a.natAbs : Nat) : Int) = 0 - a by omega, ii, Int32.ofInt_sub]
    rfl
theorem p_lmax (hr : mj_room S = true) : mj_pr pg_tl 2 3 (.long v :: .long u :: S) h = some (.long (lmx u v) :: S, h) := by
  show (if mj_room S = true then some (Value.long (if v < u then u else v) :: S, h) else none) = _
  rw [if_pos hr]; rfl
theorem p_lmin (hr : mj_room S = true) : mj_pr pg_tl 2 4 (.long v :: .long u :: S) h = some (.long (lmn u v) :: S, h) := by
  show (if mj_room S = true then some (Value.long (if v < u then v else u) :: S, h) else none) = _
  rw [if_pos hr]; rfl
theorem p_labs (hr : mj_room S = true) : mj_pr pg_tl 2 5 (.long u :: S) h = some (.long (lab u) :: S, h) := by
  show (if mj_room S = true then some (Value.long (if 0 < u then u else -u) :: S, h) else none) = _
  rw [if_pos hr]; rfl
end YP
/-- the places that w tells are all there in v -/
def allP (v w : VV) : Bool := allN (vm w) (fun k => decide (0 ≤ (vn w k).toInt ∧ (vn w k).toInt < (vm v : Int)))
/-- what AT and AMENDED ask first: an error, or 0 -/
def askP (v w : VV) : Nat := if vk v ≤ 1 ∨ 6 ≤ vk w then 3 else if vk w = 1 ∨ vk w = 3 then 5 else 0
def d_at (v w : VV) : Nat ⊕ VV := if askP v w ≠ 0 then .inl (askP v w) else if vk v = 6 ∧ vm w = 0 then .inl 4 else if allP v w = false then .inl 7 else if vk w = 0 then .inr (vit v (vn w 0).toInt.toNat) else s_pick v (fun k => (vn w k).toInt.toNat) (vm w)
set_option maxRecDepth 20000 in
theorem pm_X9_placesAsked : mj_mmof pg_ms 152 = some ((⟨"ArrayCalculator$TwoAct", "placesAsked", "(LArrayCalculator$Value;LArrayCalculator$Value;)I"⟩, prog_11_method_10_code, 2, (Option.some Jvm.ClassFile.FieldType.int)), 9, false, mj_dec prog_11_method_10_code) := rfl
theorem dm_X9_placesAsked_0 : mj_dec prog_11_method_10_code 0 = some (.aload_n 0, 1) := by decide +kernel
theorem dm_X9_placesAsked_1 : mj_dec prog_11_method_10_code 1 = some (.invokevirtual 140, 3) := by decide +kernel
theorem dm_X9_placesAsked_4 : mj_dec prog_11_method_10_code 4 = some (.ifCond .ne 21, 3) := by decide +kernel
theorem dm_X9_placesAsked_7 : mj_dec prog_11_method_10_code 7 = some (.aload_n 1, 1) := by decide +kernel
theorem dm_X9_placesAsked_8 : mj_dec prog_11_method_10_code 8 = some (.getfield 102, 3) := by decide +kernel
theorem dm_X9_placesAsked_11 : mj_dec prog_11_method_10_code 11 = some (.bipush 6, 2) := by decide +kernel
theorem dm_X9_placesAsked_13 : mj_dec prog_11_method_10_code 13 = some (.if_icmp .eq 12, 3) := by decide +kernel
theorem dm_X9_placesAsked_16 : mj_dec prog_11_method_10_code 16 = some (.aload_n 1, 1) := by decide +kernel
theorem dm_X9_placesAsked_17 : mj_dec prog_11_method_10_code 17 = some (.getfield 102, 3) := by decide +kernel
theorem dm_X9_placesAsked_20 : mj_dec prog_11_method_10_code 20 = some (.bipush 7, 2) := by decide +kernel
theorem dm_X9_placesAsked_22 : mj_dec prog_11_method_10_code 22 = some (.if_icmp .ne 5, 3) := by decide +kernel
theorem dm_X9_placesAsked_25 : mj_dec prog_11_method_10_code 25 = some (.iconst 3, 1) := by decide +kernel
theorem dm_X9_placesAsked_26 : mj_dec prog_11_method_10_code 26 = some (.ireturn, 1) := by decide +kernel
theorem dm_X9_placesAsked_27 : mj_dec prog_11_method_10_code 27 = some (.aload_n 1, 1) := by decide +kernel
theorem dm_X9_placesAsked_28 : mj_dec prog_11_method_10_code 28 = some (.invokevirtual 91, 3) := by decide +kernel
theorem dm_X9_placesAsked_31 : mj_dec prog_11_method_10_code 31 = some (.ifCond .eq 7, 3) := by decide +kernel
theorem dm_X9_placesAsked_34 : mj_dec prog_11_method_10_code 34 = some (.iconst 5, 1) := by decide +kernel
theorem dm_X9_placesAsked_35 : mj_dec prog_11_method_10_code 35 = some (.goto 4, 3) := by decide +kernel
theorem dm_X9_placesAsked_38 : mj_dec prog_11_method_10_code 38 = some (.iconst 0, 1) := by decide +kernel
theorem dm_X9_placesAsked_39 : mj_dec prog_11_method_10_code 39 = some (.ireturn, 1) := by decide +kernel
theorem t_placesAsked {xt : mj_X} {d e p : Nat} {A : Nat → Prop} {h : mj_H} {v : VV} {q : Nat} {w : VV} (hd : 2 ≤ d) (hv : cv A h (e + 1) p v) (hw : cv A h (e + 1) q w) : pgP xt d 152 [.ref p, .ref q] h (ii (askP v w : Int)) := by
  have hcv := vw1_c hv.1
  have hcw := vw1_c hw.1
  obtain ⟨row, fr, vals, hp, hp2, hpA, hvk, hvm, hvc, hvs, hvl⟩ := cv_val hv
  obtain ⟨row2, fr2, vals2, hq, hq2, hqA, hwk, hwm, hwc, hws, hwl⟩ := cv_val hw
  refine x_enter pm_X9_placesAsked (L0 := [(0, .ref p), (1, .ref q)]) rfl (Nat.le_of_ble_eq_true rfl) (by omega) ?_
  refine me1 (pc' := 1) (L' := [(0, .ref p), (1, .ref q)]) (S' := [.ref p]) dm_X9_placesAsked_0 rfl rfl rfl rfl ?_
  refine x_cp (pc' := 4) (v := zz (decide (vk v ≤ 1))) (rest := []) dm_X9_placesAsked_1 rfl (g_inv (As := []) (S := []) hp rfl rfl rfl (by omega)) rfl rfl rfl (c_isOne (by omega) hv) ?_
  refine y_zne (c := decide (vk v ≤ 1)) (t := 25) (pc' := 7) dm_X9_placesAsked_4 rfl rfl (fun hb1 => ?_) (fun hb1 => ?_)
  · replace hb1 := dT hb1
    refine me0 (pc' := 26) (S' := [ii 3]) dm_X9_placesAsked_25 rfl rfl rfl rfl ?_
    refine y_ret (r := some (ii 3)) dm_X9_placesAsked_26 rfl rfl rfl ?_
    refine ⟨congrArg some (n_ii ?_), rfl⟩
    unfold askP
    rw [if_pos (by omega)]; rfl
  · replace hb1 := dF hb1
    refine me1 (pc' := 8) (L' := [(0, .ref p), (1, .ref q)]) (S' := [.ref q]) dm_X9_placesAsked_7 rfl rfl rfl rfl ?_
    refine me3 (pc' := 11) (S' := [ii (vk w : Int)]) dm_X9_placesAsked_8 (g_get (v := ii (vk w : Int)) hq rfl rfl (by omega)) rfl rfl rfl ?_
    refine me0 (pc' := 13) (S' := [ii 6, ii (vk w : Int)]) dm_X9_placesAsked_11 rfl rfl rfl rfl ?_
    refine y_2eq (a := (vk w : Int)) (b := 6) (t := 25) (pc' := 16) dm_X9_placesAsked_13 rfl rfl (by omega) (fun hb2 => ?_) (fun hb2 => ?_)
    · refine me0 (pc' := 26) (S' := [ii 3]) dm_X9_placesAsked_25 rfl rfl rfl rfl ?_
      refine y_ret (r := some (ii 3)) dm_X9_placesAsked_26 rfl rfl rfl ?_
      refine ⟨congrArg some (n_ii ?_), rfl⟩
      unfold askP
      rw [if_pos (by omega)]; rfl
    · refine me1 (pc' := 17) (L' := [(0, .ref p), (1, .ref q)]) (S' := [.ref q]) dm_X9_placesAsked_16 rfl rfl rfl rfl ?_
      refine me3 (pc' := 20) (S' := [ii (vk w : Int)]) dm_X9_placesAsked_17 (g_get (v := ii (vk w : Int)) hq rfl rfl (by omega)) rfl rfl rfl ?_
      refine me0 (pc' := 22) (S' := [ii 7, ii (vk w : Int)]) dm_X9_placesAsked_20 rfl rfl rfl rfl ?_
      refine y_2ne (a := (vk w : Int)) (b := 7) (t := 27) (pc' := 25) dm_X9_placesAsked_22 rfl rfl (by omega) (fun hb3 => ?_) (fun hb3 => ?_)
      · refine me1 (pc' := 28) (L' := [(0, .ref p), (1, .ref q)]) (S' := [.ref q]) dm_X9_placesAsked_27 rfl rfl rfl rfl ?_
        refine x_cp (pc' := 31) (v := zz (decide (vk w = 1 ∨ vk w = 3))) (rest := []) dm_X9_placesAsked_28 rfl (g_inv (As := []) (S := []) hq rfl rfl rfl (by omega)) rfl rfl rfl (c_ofSigns (by omega) hw) ?_
        refine y_zeq (c := decide (vk w = 1 ∨ vk w = 3)) (t := 38) (pc' := 34) dm_X9_placesAsked_31 rfl rfl (fun hb4 => ?_) (fun hb4 => ?_)
        · replace hb4 := dF hb4
          refine me0 (pc' := 39) (S' := [ii 0]) dm_X9_placesAsked_38 rfl rfl rfl rfl ?_
          refine y_ret (r := some (ii 0)) dm_X9_placesAsked_39 rfl rfl rfl ?_
          refine ⟨congrArg some (n_ii ?_), rfl⟩
          unfold askP
          rw [if_neg (by omega), if_neg (by omega)]; rfl
        · replace hb4 := dT hb4
          refine me0 (pc' := 35) (S' := [ii 5]) dm_X9_placesAsked_34 rfl rfl rfl rfl ?_
          refine me2 (pc' := 39) (S' := [ii 5]) dm_X9_placesAsked_35 rfl rfl rfl ?_
          refine y_ret (r := some (ii 5)) dm_X9_placesAsked_39 rfl rfl rfl ?_
          refine ⟨congrArg some (n_ii ?_), rfl⟩
          unfold askP
          rw [if_neg (by omega), if_pos (by omega)]; rfl
      · refine me0 (pc' := 26) (S' := [ii 3]) dm_X9_placesAsked_25 rfl rfl rfl rfl ?_
        refine y_ret (r := some (ii 3)) dm_X9_placesAsked_26 rfl rfl rfl ?_
        refine ⟨congrArg some (n_ii ?_), rfl⟩
        unfold askP
        rw [if_pos (by omega)]; rfl
set_option maxRecDepth 20000 in
theorem pm_X9_placesThere : mj_mmof pg_ms 153 = some ((⟨"ArrayCalculator$TwoAct", "placesThere", "(LArrayCalculator$Value;LArrayCalculator$Value;)Z"⟩, prog_11_method_11_code, 6, (Option.some Jvm.ClassFile.FieldType.boolean)), 9, false, mj_dec prog_11_method_11_code) := rfl
theorem dm_X9_placesThere_0 : mj_dec prog_11_method_11_code 0 = some (.iconst 0, 1) := by decide +kernel
theorem dm_X9_placesThere_1 : mj_dec prog_11_method_11_code 1 = some (.istore_n 3, 1) := by decide +kernel
theorem dm_X9_placesThere_2 : mj_dec prog_11_method_11_code 2 = some (.iload_n 3, 1) := by decide +kernel
theorem dm_X9_placesThere_3 : mj_dec prog_11_method_11_code 3 = some (.aload_n 2, 1) := by decide +kernel
theorem dm_X9_placesThere_4 : mj_dec prog_11_method_11_code 4 = some (.getfield 94, 3) := by decide +kernel
theorem dm_X9_placesThere_7 : mj_dec prog_11_method_11_code 7 = some (.if_icmp .ge 45, 3) := by decide +kernel
theorem dm_X9_placesThere_10 : mj_dec prog_11_method_11_code 10 = some (.aload_n 2, 1) := by decide +kernel
theorem dm_X9_placesThere_11 : mj_dec prog_11_method_11_code 11 = some (.iload_n 3, 1) := by decide +kernel
theorem dm_X9_placesThere_12 : mj_dec prog_11_method_11_code 12 = some (.invokevirtual 129, 3) := by decide +kernel
theorem dm_X9_placesThere_15 : mj_dec prog_11_method_11_code 15 = some (.lstore 4, 2) := by decide +kernel
theorem dm_X9_placesThere_17 : mj_dec prog_11_method_11_code 17 = some (.lload 4, 2) := by decide +kernel
theorem dm_X9_placesThere_19 : mj_dec prog_11_method_11_code 19 = some (.lconst 0, 1) := by decide +kernel
theorem dm_X9_placesThere_20 : mj_dec prog_11_method_11_code 20 = some (.lcmp, 1) := by decide +kernel
theorem dm_X9_placesThere_21 : mj_dec prog_11_method_11_code 21 = some (.ifCond .lt 14, 3) := by decide +kernel
theorem dm_X9_placesThere_24 : mj_dec prog_11_method_11_code 24 = some (.lload 4, 2) := by decide +kernel
theorem dm_X9_placesThere_26 : mj_dec prog_11_method_11_code 26 = some (.aload_n 1, 1) := by decide +kernel
theorem dm_X9_placesThere_27 : mj_dec prog_11_method_11_code 27 = some (.getfield 94, 3) := by decide +kernel
theorem dm_X9_placesThere_30 : mj_dec prog_11_method_11_code 30 = some (.i2l, 1) := by decide +kernel
theorem dm_X9_placesThere_31 : mj_dec prog_11_method_11_code 31 = some (.lcmp, 1) := by decide +kernel
theorem dm_X9_placesThere_32 : mj_dec prog_11_method_11_code 32 = some (.ifCond .lt 5, 3) := by decide +kernel
theorem dm_X9_placesThere_35 : mj_dec prog_11_method_11_code 35 = some (.iconst 0, 1) := by decide +kernel
theorem dm_X9_placesThere_36 : mj_dec prog_11_method_11_code 36 = some (.ireturn, 1) := by decide +kernel
theorem dm_X9_placesThere_37 : mj_dec prog_11_method_11_code 37 = some (.aload_n 0, 1) := by decide +kernel
theorem dm_X9_placesThere_38 : mj_dec prog_11_method_11_code 38 = some (.getfield 18, 3) := by decide +kernel
theorem dm_X9_placesThere_41 : mj_dec prog_11_method_11_code 41 = some (.iload_n 3, 1) := by decide +kernel
theorem dm_X9_placesThere_42 : mj_dec prog_11_method_11_code 42 = some (.lload 4, 2) := by decide +kernel
theorem dm_X9_placesThere_44 : mj_dec prog_11_method_11_code 44 = some (.l2i, 1) := by decide +kernel
theorem dm_X9_placesThere_45 : mj_dec prog_11_method_11_code 45 = some (.iastore, 1) := by decide +kernel
theorem dm_X9_placesThere_46 : mj_dec prog_11_method_11_code 46 = some (.iinc 3 1, 3) := by decide +kernel
theorem dm_X9_placesThere_49 : mj_dec prog_11_method_11_code 49 = some (.goto (-47), 3) := by decide +kernel
theorem dm_X9_placesThere_52 : mj_dec prog_11_method_11_code 52 = some (.iconst 1, 1) := by decide +kernel
theorem dm_X9_placesThere_53 : mj_dec prog_11_method_11_code 53 = some (.ireturn, 1) := by decide +kernel
theorem t_placesThere {xt : mj_X} {d e p q : Nat} {A : Nat → Prop} {h : mj_H} {v w : VV} {f1 : Nat → Value} (hx1 : xt 1 = some (.long, 0, f1)) (hd : 3 ≤ d) (hl : 127 ≤ h.length) (hA : okA A h) (hH : actH h) (hv : cv A h (e + 1) p v) (hw : cv A h (e + 1) q w) (he : e ≤ 20) (hset : vsz (e + 1) v ≤ 1000) (hset2 : vsz (e + 1) w ≤ 1000) (hw5 : vk w ≤ 5) : pgV xt d 153 [.ref 26, .ref p, .ref q] h (fun x h' => ∃ P, x = zz (allP v w) ∧ h' = h.set 29 (cI 144 P) ∧ (allP v w = true → ∀ j, j < vm w → P j = (vn w j).toInt)) := by
  obtain ⟨-, -, -, -, -, -, -, -, ⟨ft0, h26⟩, -, -, ⟨pf0, h29⟩, ⟨nf0, h30⟩, ⟨uf0, h31⟩⟩ := id hH
  have hcv := vw1_c hv.1
  have hcw := vw1_c hw.1
  obtain ⟨row, fr, vals, hp, hp2, hpA, hvk, hvm, hvc, hvs, hvl⟩ := cv_val hv
  obtain ⟨row2, fr2, vals2, hq, hq2, hqA, hwk, hwm, hwc, hws, hwl⟩ := cv_val hw
  have hpb := hA p hpA
  have hqb := hA q hqA
  have hvq9 : vk w ≤ 1 ∨ vq w = vm w := by by_cases z : vk w ≤ 1; exact Or.inl z; exact Or.inr (by unfold vq; rw [if_neg (by omega), if_neg (by omega)])
  refine x_enter pm_X9_placesThere (L0 := [(0, .ref 26), (1, .ref p), (2, .ref q)]) rfl (Nat.le_of_ble_eq_true rfl) (by omega) ?_
  refine me0 (pc' := 1) (S' := [ii 0]) dm_X9_placesThere_0 rfl rfl rfl rfl ?_
  refine me1 (pc' := 2) (L' := [(3, ii 0), (0, .ref 26), (1, .ref p), (2, .ref q)]) (S' := []) dm_X9_placesThere_1 rfl rfl rfl rfl ?_
  have lp2 : ∀ (n2 : Nat) (k : Nat) (P : Nat → Int), vm w - k = n2 → (k ≤ vm w) → (∀ j, j < k → P j = (vn w j).toInt ∧ 0 ≤ (vn w j).toInt ∧ (vn w j).toInt < (vm v : Int)) → pgE xt (d - 1) 9 6 false (Option.some Jvm.ClassFile.FieldType.boolean) (mj_dec prog_11_method_11_code) 2 [(0, .ref 26), (1, .ref p), (2, .ref q), (3, ii (k : Int))] [] ((h).set 29 (cI 144 P)) (fun r h' => ∃ x, r = some x ∧ (fun x h' => ∃ P, x = zz (allP v w) ∧ h' = h.set 29 (cI 144 P) ∧ (allP v w = true → ∀ j, j < vm w → P j = (vn w j).toInt)) x h') := by
    intro n2
    induction n2 using Nat.strongRecOn with
    | ind n2 ih2 =>
      intro k P hm2 hk hP
      refine me1 (pc' := 3) (L' := [(0, .ref 26), (1, .ref p), (2, .ref q), (3, ii (k : Int))]) (S' := [ii (k : Int)]) dm_X9_placesThere_2 rfl rfl rfl rfl ?_
      refine me1 (pc' := 4) (L' := [(0, .ref 26), (1, .ref p), (2, .ref q), (3, ii (k : Int))]) (S' := [.ref q, ii (k : Int)]) dm_X9_placesThere_3 rfl rfl rfl rfl ?_
      refine me3 (pc' := 7) (S' := [ii (vm w : Int), ii (k : Int)]) dm_X9_placesThere_4 (g_get (v := ii (vm w : Int)) (hl_ne (by omega) hq) rfl rfl (by omega)) rfl rfl rfl ?_
      refine y_2ge (a := (k : Int)) (b := (vm w : Int)) (t := 52) (pc' := 10) dm_X9_placesThere_7 rfl rfl (by omega) (fun hb1 => ?_) (fun hb1 => ?_)
      · refine me0 (pc' := 53) (S' := [ii 1]) dm_X9_placesThere_52 rfl rfl rfl rfl ?_
        refine y_ret (r := some (ii 1)) dm_X9_placesThere_53 rfl rfl rfl ?_
        have hkn : k = vm w := by omega
        have hall : allP v w = true := allN_iff.mpr (fun j hj => decide_eq_true (hP j (by omega)).2)
        exact ⟨_, rfl, P, by rw [hall]; rfl, rfl, fun _ j hj => (hP j (by omega)).1⟩
      · have hv1 : vnum w (k : Int) = vn w k := by by_cases z : vk w ≤ 1; (rw [vnum_1 z]; congr 1; have := hw.1.2.1 z; omega); (rw [vnum_r (by omega) (by omega) (by omega)]; rfl)
        refine me1 (pc' := 11) (L' := [(0, .ref 26), (1, .ref p), (2, .ref q), (3, ii (k : Int))]) (S' := [.ref q]) dm_X9_placesThere_10 rfl rfl rfl rfl ?_
        refine me1 (pc' := 12) (L' := [(0, .ref 26), (1, .ref p), (2, .ref q), (3, ii (k : Int))]) (S' := [ii (k : Int), .ref q]) dm_X9_placesThere_11 rfl rfl rfl rfl ?_
        refine x_cp (pc' := 15) (v := .long (vn w k)) (rest := []) dm_X9_placesThere_12 rfl (g_inv (As := [ii (k : Int)]) (S := []) (hl_ne (by omega) hq) rfl rfl rfl (by omega)) rfl rfl rfl ((show pgP xt (d - 1) _ _ _ (.long (vn w k)) from hv1 ▸ c_numberAt (i := (k : Int)) hx1 (by omega) (cv_set (nA hA (Or.inl (by decide))) hw) (by omega))) ?_
        refine me1 (pc' := 17) (L' := [(4, .long (vn w k)), (0, .ref 26), (1, .ref p), (2, .ref q), (3, ii (k : Int))]) (S' := []) dm_X9_placesThere_15 rfl rfl rfl rfl ?_
        refine me1 (pc' := 19) (L' := [(4, .long (vn w k)), (0, .ref 26), (1, .ref p), (2, .ref q), (3, ii (k : Int))]) (S' := [.long (vn w k)]) dm_X9_placesThere_17 rfl rfl rfl rfl ?_
        refine me0 (pc' := 20) (S' := [.long (Int64.ofInt 0), .long (vn w k)]) dm_X9_placesThere_19 rfl rfl rfl rfl ?_
        refine y_llt (x := vn w k) (y := Int64.ofInt 0) (t := 35) (pc1 := 21) (pc' := 24) dm_X9_placesThere_20 rfl dm_X9_placesThere_21 rfl rfl (fun hb2 => ?_) (fun hb2 => ?_)
        · refine me0 (pc' := 36) (S' := [ii 0]) dm_X9_placesThere_35 rfl rfl rfl rfl ?_
          refine y_ret (r := some (ii 0)) dm_X9_placesThere_36 rfl rfl rfl ?_
          have hall : allP v w = false := allN_f (k := k) (by omega) (decide_eq_false (by rw [n_toL (by omega) (by omega)] at *; omega))
          exact ⟨_, rfl, P, by rw [hall]; rfl, rfl, fun z => by rw [hall] at z; cases z⟩
        · refine me1 (pc' := 26) (L' := [(4, .long (vn w k)), (0, .ref 26), (1, .ref p), (2, .ref q), (3, ii (k : Int))]) (S' := [.long (vn w k)]) dm_X9_placesThere_24 rfl rfl rfl rfl ?_
          refine me1 (pc' := 27) (L' := [(4, .long (vn w k)), (0, .ref 26), (1, .ref p), (2, .ref q), (3, ii (k : Int))]) (S' := [.ref p, .long (vn w k)]) dm_X9_placesThere_26 rfl rfl rfl rfl ?_
          refine me3 (pc' := 30) (S' := [ii (vm v : Int), .long (vn w k)]) dm_X9_placesThere_27 (g_get (v := ii (vm v : Int)) (hl_ne (by omega) hp) rfl rfl (by omega)) rfl rfl rfl ?_
          refine y_i2l (a := (vm v : Int)) dm_X9_placesThere_30 (pc' := 31) rfl (by omega) (by omega) ?_
          refine y_llt (x := vn w k) (y := Int64.ofInt (vm v : Int)) (t := 37) (pc1 := 32) (pc' := 35) dm_X9_placesThere_31 rfl dm_X9_placesThere_32 rfl rfl (fun hb3 => ?_) (fun hb3 => ?_)
          · refine me1 (pc' := 38) (L' := [(4, .long (vn w k)), (0, .ref 26), (1, .ref p), (2, .ref q), (3, ii (k : Int))]) (S' := [.ref 26]) dm_X9_placesThere_37 rfl rfl rfl rfl ?_
            refine me3 (pc' := 41) (S' := [.ref 29]) dm_X9_placesThere_38 (g_get (v := .ref 29) (hl_ne (by decide) h26) rfl rfl (by decide)) rfl rfl rfl ?_
            refine me1 (pc' := 42) (L' := [(4, .long (vn w k)), (0, .ref 26), (1, .ref p), (2, .ref q), (3, ii (k : Int))]) (S' := [ii (k : Int), .ref 29]) dm_X9_placesThere_41 rfl rfl rfl rfl ?_
            refine me1 (pc' := 44) (L' := [(4, .long (vn w k)), (0, .ref 26), (1, .ref p), (2, .ref q), (3, ii (k : Int))]) (S' := [.long (vn w k), ii (k : Int), .ref 29]) dm_X9_placesThere_42 rfl rfl rfl rfl ?_
            have hin : 0 ≤ (vn w k).toInt ∧ (vn w k).toInt < (vm v : Int) := by rw [n_toL (by omega) (by omega)] at *; omega
            refine y_l2i (a := (vn w k).toInt) dm_X9_placesThere_44 (pc' := 45) rfl (n_l2i _ rfl) ?_
            refine me3 (pc' := 46) (S' := []) (h1 := (h).set 29 (cI 144 (va_up P k ((vn w k).toInt)))) dm_X9_placesThere_45 (y_hs (yh_iast (j := (k : Int)) (hl_set (hl_lt h29)) (by omega) (by omega) (by omega) (by decide)) (by rw [show (k : Int).toNat = k from rfl]; rw [List.set_set])) rfl rfl rfl ?_
            refine y_iinc (pc' := 49) (L' := [(3, ii ((k : Int) + 1)), (4, .long (vn w k)), (0, .ref 26), (1, .ref p), (2, .ref q)]) dm_X9_placesThere_46 (y_incp (a := (k : Int)) (c := 1) rfl rfl (by decide)) rfl ?_
            refine me2 (pc' := 2) (S' := []) dm_X9_placesThere_49 rfl rfl rfl ?_
            exact pg_sub (L := [(0, .ref 26), (1, .ref p), (2, .ref q), (3, ii ((k + 1) : Int))]) rfl rfl rfl (ih2 (vm w - (k + 1)) (by omega) (k + 1) (va_up P k (vn w k).toInt) rfl (by omega) (fun j hj => by rw [up_at]; by_cases z : j = k; (subst z; rw [if_pos rfl]; exact ⟨rfl, hin⟩); (rw [if_neg z]; exact hP j (by omega))))
          · refine me0 (pc' := 36) (S' := [ii 0]) dm_X9_placesThere_35 rfl rfl rfl rfl ?_
            refine y_ret (r := some (ii 0)) dm_X9_placesThere_36 rfl rfl rfl ?_
            have hall : allP v w = false := allN_f (k := k) (by omega) (decide_eq_false (by rw [n_toL (by omega) (by omega)] at *; omega))
            exact ⟨_, rfl, P, by rw [hall]; rfl, rfl, fun z => by rw [hall] at z; cases z⟩
  refine pg_cast (h2 := (h).set 29 (cI 144 pf0)) (hl_self h29).symm ?_
  exact pg_sub (L := [(0, .ref 26), (1, .ref p), (2, .ref q), (3, ii (0 : Int))]) rfl rfl rfl (lp2 _ 0 pf0 rfl (Nat.zero_le _) (fun j hj => absurd hj (Nat.not_lt_zero j)))
