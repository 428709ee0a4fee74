/-! strings: sortOfByte -/
theorem sb_ixs {c : Int32} : ∀ (l : List Int32) (k : Nat), k + l.length ≤ 20 → (sb_ixF c l k < 0 ↔ c ∉ l) := by
  intro l
  induction l with
  | nil => intro k _; exact ⟨fun _ z => (by cases z), fun _ => (by show (-1 : Int32) < 0; decide)⟩
  | cons b l ih =>
    intro k hk
    have hk2 : k + 1 + l.length ≤ 20 := by rw [List.length_cons] at hk; omega
    unfold sb_ixF
    by_cases z : b = c
    · rw [if_pos z]
      exact ⟨fun y => absurd y (sb_20 k (by rw [List.length_cons] at hk; omega)).2.1, fun y => absurd (by rw [z]; exact List.mem_cons_self) y⟩
    · rw [if_neg z, ih (k + 1) hk2, List.mem_cons]
      exact ⟨fun y w => w.elim (fun q => z q.symm) y, fun y w => y (Or.inr w)⟩
theorem sb_sob (n : Nat) : (sb_ix 0 n < 0 ↔ Int32.ofNat n ∉ mj_verbs) ∧ (sb_ix 1 n < 0 ↔ Int32.ofNat n ∉ mj_marks) := ⟨sb_ixs mj_verbs 0 (by decide), sb_ixs mj_marks 0 (by decide)⟩
theorem sb_of {c : Int32} (h0 : ¬ c < 0) (h1 : c < 256) : ∃ n, n < 256 ∧ c = Int32.ofNat n := by
  have a0 : (0 : Int) ≤ c.toInt := by
    have := Int32.not_lt.mp h0
    simpa using Int32.le_iff_toInt_le.mp this
  have a1 : c.toInt < 256 := by simpa using Int32.lt_iff_toInt_lt.mp h1
  refine ⟨c.toInt.toNat, by omega, ?_⟩
  apply Int32.toInt_inj.mp
  rw [Int32.toInt_ofNat_of_lt (by omega)]
  omega
theorem mj_lt256 : ∀ n, n < 256 → mj_sob (Int32.ofNat n) = if Int32.ofNat n ∈ mj_verbs then 5 else if Int32.ofNat n = 47 ∨ Int32.ofNat n = 92 ∨ Int32.ofNat n = 39 then 6 else if Int32.ofNat n ∈ mj_marks then 7 else 0 := by
  intro n hn
  unfold mj_sob
  rw [if_neg (sb_i8 n hn).1]
set_option maxHeartbeats 4000000 in
theorem sb_S7 {l : Launch} {Ns : List Cond} {Zs : mj_Z} {xt : mj_X} {xa : Nat → Nat} {D : va_G} {cl : List vw_C} {tys : List (ClassId × FieldType)} {c0 : Nat} {Tg : List Cond} {adK adV : Nat → Nat} (hsb : ∀ w ∈ sb_ws, w ∈ Tg) (h5 : 5 ≤ Zs.2.2.2.1) (h200 : 200 ≤ Zs.2.2.2.2) (hz : ("java/lang/String", "COMPACT_STRINGS", "Z", Value.int 1) ∈ Zs.1) {tx1 tx2 : String} (hr1 : ("ArrayCalculator$Tokens", 108, tx1, adK 0) ∈ Zs.2.1) (hr2 : ("ArrayCalculator$Tokens", 115, tx2, adK 1) ∈ Zs.2.1) (hSe : Zs.2.2.1 = (2, [19, 8], [mj_verbs, mj_marks], adK, adV)) : mj_S7 l Ns Zs xt xa D cl tys c0 Tg := by
  intro hw7
  refine ⟨h5, h200, fun cb ad h sz hc => ?_⟩
  refine Met.ofW (cc := prog_10_method_13_code) (maxL := 1) (ret := some .int) (by decide +kernel) rfl ?_
  intro p e s m args below meth c s₁ B hml hv
  obtain ⟨rfl, rfl, hK, hNk, hZ, hX, hI⟩ := hv
  have hx := B.exec
  have hb := B.bytes
  have hrt := B.returns
  have hts := atoms_spec (ws := mj_w7 :: Tg) B.pre
  have hsb2 : ∀ w ∈ sb_ws, w ∈ mj_w7 :: Tg := fun w q => List.mem_cons_of_mem _ (hsb w q)
  have hown : s.vm.findClass "ArrayCalculator$Tokens" = some m.cls := findClass_of_methodNamed B.named
  have hlocks := B.notSynchronized
  have hS0 : va_S (fun q => s.heap.size ≤ q) s.heap s.heap [] := va_S.rf
  have hAq : ∀ q : Nat, s.heap.size ≤ q → (fun q => s.heap.size ≤ q) q := fun q z => z
  have hE : sb_E adK adV (fun q => s.heap.size ≤ q) s s.heap := by
    have h1 := hZ.2.2
    rw [hSe] at h1
    exact ⟨(hZ.1 _ hz).narrow (fun q z => Or.inr z), h1.narrow (fun q z => Or.inr z)⟩
  have fin : ∀ {r : Int32} {H : Heap} {locs : List Loc} {pc : Nat} {ls : Array Slot}, va_S (fun q => s.heap.size ≤ q) s.heap H locs → decode prog_10_method_13_code pc = .ok (.ireturn, 1) → mj_sob cb = r → W p l e (headSpec (mj_w7 :: Tg) mj_r7).room s m (mj_vs ad [.int cb]).toArray below meth c H locs 0 0 (MQ below (mj_Qc D cl tys c0 ad h s.heap.size (some (.int (mj_sob cb))) h) (mj_vs ad [.int cb]).toArray s 0 0 (mj_A tys ad h c0 s.heap.size)) (F0 m pc ls [.int r]) := by
    intro r H locs pc ls hS hdg hr
    subst hr
    refine W.iret hx hb hrt (fun t ht _ => ⟨[], rfl, ?_⟩) (fun q hq => Or.inr (hS.2.2 q hq)) hdg hlocks
    rw [List.append_nil, ht]
    have hP := hI.2.2.2.1
    refine ⟨hI.1, hI.2.1, hI.2.2.1, hP.kept (fun k y hy => hS.2.1 y.1 ((hP k y hy).lt) (Nat.not_le.mpr ((hP k y hy).lt))), hI.2.2.2.2.1, ⟨hS.1, fun q h1 _ => hS.2.1 q h1 (Nat.not_le.mpr h1), fun _ z => by cases z⟩, trivial⟩
  have fix : CallFix p m c prog_10_method_13_code 1 s (mj_vs ad [.int cb]).toArray (mj_w7 :: Tg) "ArrayCalculator$Tokens" := ⟨hx, hb, hml, hown, hts⟩
  have hl := lv_entry (mj_vs ad [.int cb]) (n := 1) (Nat.le_of_ble_eq_true rfl)
  rw [lg_entry_eq]
  by_cases h0 : cb < 0
  · have hlc : lv_has _ 1 (mj_ls [adK 0, adK 1] [(0, .int cb)]) := hl
    refine mj_loc_W (ad := [adK 0, adK 1]) (i := .iload_n 0) (L := [(0, .int cb)]) (L' := [(0, .int cb)]) (S := []) (S' := [.int cb]) hx hb rfl sd_s_0 hlc (fun ls1 hl1 => ?_)
    refine mj_br_W (ad := [adK 0, adK 1]) (S := [.int cb]) (S' := []) (t := 4) hx hb (by
      show some (if mj_cnd .ge cb 0 = true then 6 else 4, []) = _
      rw [if_neg (by show ¬ decide ((0 : Int32) ≤ cb) = true; rw [decide_eq_true_eq]; exact Int32.not_le.mpr h0)]) sd_s_1 rfl ?_
    refine mj_alu_W (ad := [adK 0, adK 1]) (i := .iconst 0) (S := []) (S' := [.int 0]) hx hb rfl sd_s_4 ?_
    exact fin hS0 sd_s_5 (by unfold mj_sob; rw [if_pos h0])
  obtain ⟨n, hn, rfl⟩ := sb_of h0 hc
  obtain ⟨-, h255, hu⟩ := sb_i8 n hn
  obtain ⟨hv1, hv2⟩ := sb_sob n
  have hsob := mj_lt256 n hn
  have hl0 : lv_has _ 1 (mj_ls [adK 0, adK 1] [(0, .int (Int32.ofNat n))]) := hl
  refine mj_loc_W (ad := [adK 0, adK 1]) (i := .iload_n 0) (L := [(0, .int (Int32.ofNat n))]) (L' := [(0, .int (Int32.ofNat n))]) (S := []) (S' := [.int (Int32.ofNat n)]) hx hb rfl sd_s_0 hl0 (fun ls1 hl1 => ?_)
  refine mj_br_W (ad := [adK 0, adK 1]) (S := [.int (Int32.ofNat n)]) (S' := []) (t := 6) hx hb (by
    show some (if mj_cnd .ge (Int32.ofNat n) 0 = true then 6 else 4, []) = _
    rw [if_pos (by show decide ((0 : Int32) ≤ Int32.ofNat n) = true; rw [decide_eq_true_eq]; exact Int32.not_lt.mp h0)]) sd_s_1 rfl ?_
  refine va_ldcS hx hb hown (hZ.2.1 _ hr1) sd_s_6 ?_
  refine mj_loc_W (ad := [adK 0, adK 1]) (i := .iload_n 0) (L := [(0, .int (Int32.ofNat n))]) (L' := [(0, .int (Int32.ofNat n))]) (S := [.ref 0]) (S' := [.int (Int32.ofNat n), .ref 0]) hx hb rfl sd_s_8 hl1 (fun ls2 hl2 => ?_)
  refine mj_alu_W (ad := [adK 0, adK 1]) (i := .i2c) (S := [.int (Int32.ofNat n), .ref 0]) (S' := [.int (Int32.ofNat n), .ref 0]) hx hb (by show some [Value.int ((Int32.ofNat n).toUInt32 % 65536).toInt32, .ref 0] = _; rw [hu]) sd_s_9 ?_
  refine sb_callV (i := 0) (adK := adK) (adV := adV) (As := [.int (Int32.ofNat n)]) (rest := []) (n := 1) (rm := { frames := 4, cells := 0, slots := 0, locals := 160 }) fix hsb2 (by decide) (fun sz => sb_index1 l (by decide) hn sz) rfl rfl (List.mem_append_left _ (by decide +kernel)) (List.mem_append_left _ (by decide +kernel)) (List.mem_append_left _ (by decide +kernel)) (List.mem_append_left _ (by decide +kernel)) (List.mem_append_left _ (by decide +kernel)) ⟨by decide +kernel, by decide +kernel, by decide +kernel⟩ ⟨(show 4 + 1 ≤ 5 by decide), (show 8 + (2 + 11) + 160 ≤ 200 by decide)⟩ rfl hE hS0 hAq hl2.1 (Nat.le_of_ble_eq_true rfl) sd_s_10 (Nat.zero_le _) (Nat.zero_le _) (fun H1 locs1 hS1 => ?_)
  by_cases hb1 : sb_ix 0 n < 0
  · have hnv := hv1.mp hb1
    refine mj_br_W (ad := [adK 0, adK 1]) (S := [.int (sb_ix 0 n)]) (S' := []) (t := 18) hx hb (by
      show some (if mj_cnd .lt (sb_ix 0 n) 0 = true then 18 else 16, []) = _
      rw [if_pos (by show decide (sb_ix 0 n < 0) = true; rw [decide_eq_true_eq]; exact hb1)]) sd_s_13 rfl ?_
    rw [if_neg hnv] at hsob
    refine mj_loc_W (ad := [adK 0, adK 1]) (i := .iload_n 0) (L := [(0, .int (Int32.ofNat n))]) (L' := [(0, .int (Int32.ofNat n))]) (S := []) (S' := [.int (Int32.ofNat n)]) hx hb rfl sd_s_18 hl2 (fun ls3 hl3 => ?_)
    refine mj_alu_W (ad := [adK 0, adK 1]) (i := .bipush 47) (S := [.int (Int32.ofNat n)]) (S' := [.int 47, .int (Int32.ofNat n)]) hx hb rfl sd_s_19 ?_
    by_cases e1 : Int32.ofNat n = 47
    · refine mj_br_W (ad := [adK 0, adK 1]) (S := [.int 47, .int (Int32.ofNat n)]) (S' := []) (t := 36) hx hb (by show some (if mj_cnd .eq (Int32.ofNat n) 47 = true then 36 else 24, []) = _; rw [if_pos (by show decide (Int32.ofNat n = 47) = true; rw [decide_eq_true_eq]; exact e1)]) sd_s_21 rfl ?_
      refine mj_alu_W (ad := [adK 0, adK 1]) (i := .bipush 6) (S := []) (S' := [.int 6]) hx hb rfl sd_s_36 ?_
      exact fin hS1 sd_s_38 (by rw [hsob, if_pos (Or.inl e1)])
    refine mj_br_W (ad := [adK 0, adK 1]) (S := [.int 47, .int (Int32.ofNat n)]) (S' := []) (t := 24) hx hb (by show some (if mj_cnd .eq (Int32.ofNat n) 47 = true then 36 else 24, []) = _; rw [if_neg (by show ¬ decide (Int32.ofNat n = 47) = true; rw [decide_eq_true_eq]; exact e1)]) sd_s_21 rfl ?_
    refine mj_loc_W (ad := [adK 0, adK 1]) (i := .iload_n 0) (L := [(0, .int (Int32.ofNat n))]) (L' := [(0, .int (Int32.ofNat n))]) (S := []) (S' := [.int (Int32.ofNat n)]) hx hb rfl sd_s_24 hl3 (fun ls4 hl4 => ?_)
    refine mj_alu_W (ad := [adK 0, adK 1]) (i := .bipush 92) (S := [.int (Int32.ofNat n)]) (S' := [.int 92, .int (Int32.ofNat n)]) hx hb rfl sd_s_25 ?_
    by_cases e2 : Int32.ofNat n = 92
    · refine mj_br_W (ad := [adK 0, adK 1]) (S := [.int 92, .int (Int32.ofNat n)]) (S' := []) (t := 36) hx hb (by show some (if mj_cnd .eq (Int32.ofNat n) 92 = true then 36 else 30, []) = _; rw [if_pos (by show decide (Int32.ofNat n = 92) = true; rw [decide_eq_true_eq]; exact e2)]) sd_s_27 rfl ?_
      refine mj_alu_W (ad := [adK 0, adK 1]) (i := .bipush 6) (S := []) (S' := [.int 6]) hx hb rfl sd_s_36 ?_
      exact fin hS1 sd_s_38 (by rw [hsob, if_pos (Or.inr (Or.inl e2))])
    refine mj_br_W (ad := [adK 0, adK 1]) (S := [.int 92, .int (Int32.ofNat n)]) (S' := []) (t := 30) hx hb (by show some (if mj_cnd .eq (Int32.ofNat n) 92 = true then 36 else 30, []) = _; rw [if_neg (by show ¬ decide (Int32.ofNat n = 92) = true; rw [decide_eq_true_eq]; exact e2)]) sd_s_27 rfl ?_
    refine mj_loc_W (ad := [adK 0, adK 1]) (i := .iload_n 0) (L := [(0, .int (Int32.ofNat n))]) (L' := [(0, .int (Int32.ofNat n))]) (S := []) (S' := [.int (Int32.ofNat n)]) hx hb rfl sd_s_30 hl4 (fun ls5 hl5 => ?_)
    refine mj_alu_W (ad := [adK 0, adK 1]) (i := .bipush 39) (S := [.int (Int32.ofNat n)]) (S' := [.int 39, .int (Int32.ofNat n)]) hx hb rfl sd_s_31 ?_
    by_cases e3 : Int32.ofNat n = 39
    · refine mj_br_W (ad := [adK 0, adK 1]) (S := [.int 39, .int (Int32.ofNat n)]) (S' := []) (t := 36) hx hb (by show some (if mj_cnd .ne (Int32.ofNat n) 39 = true then 39 else 36, []) = _; rw [if_neg (by show ¬ (!decide (Int32.ofNat n = 39)) = true; simp [e3])]) sd_s_33 rfl ?_
      refine mj_alu_W (ad := [adK 0, adK 1]) (i := .bipush 6) (S := []) (S' := [.int 6]) hx hb rfl sd_s_36 ?_
      exact fin hS1 sd_s_38 (by rw [hsob, if_pos (Or.inr (Or.inr e3))])
    refine mj_br_W (ad := [adK 0, adK 1]) (S := [.int 39, .int (Int32.ofNat n)]) (S' := []) (t := 39) hx hb (by show some (if mj_cnd .ne (Int32.ofNat n) 39 = true then 39 else 36, []) = _; rw [if_pos (by show (!decide (Int32.ofNat n = 39)) = true; simp [e3])]) sd_s_33 rfl ?_
    rw [if_neg (fun z => z.elim e1 (fun z => z.elim e2 e3))] at hsob
    refine va_ldcS hx hb hown (hZ.2.1 _ hr2) sd_s_39 ?_
    refine mj_loc_W (ad := [adK 0, adK 1]) (i := .iload_n 0) (L := [(0, .int (Int32.ofNat n))]) (L' := [(0, .int (Int32.ofNat n))]) (S := [.ref 1]) (S' := [.int (Int32.ofNat n), .ref 1]) hx hb rfl sd_s_41 hl5 (fun ls6 hl6 => ?_)
    refine mj_alu_W (ad := [adK 0, adK 1]) (i := .i2c) (S := [.int (Int32.ofNat n), .ref 1]) (S' := [.int (Int32.ofNat n), .ref 1]) hx hb (by show some [Value.int ((Int32.ofNat n).toUInt32 % 65536).toInt32, .ref 1] = _; rw [hu]) sd_s_42 ?_
    refine sb_callV (i := 1) (adK := adK) (adV := adV) (As := [.int (Int32.ofNat n)]) (rest := []) (n := 1) (rm := { frames := 4, cells := 0, slots := 0, locals := 160 }) fix hsb2 (by decide) (fun sz => sb_index1 l (by decide) hn sz) rfl rfl (List.mem_append_left _ (by decide +kernel)) (List.mem_append_left _ (by decide +kernel)) (List.mem_append_left _ (by decide +kernel)) (List.mem_append_left _ (by decide +kernel)) (List.mem_append_left _ (by decide +kernel)) ⟨by decide +kernel, by decide +kernel, by decide +kernel⟩ ⟨(show 4 + 1 ≤ 5 by decide), (show 8 + (2 + 11) + 160 ≤ 200 by decide)⟩ rfl hE hS1 hAq hl6.1 (Nat.le_of_ble_eq_true rfl) sd_s_43 (Nat.zero_le _) (Nat.zero_le _) (fun H2 locs2 hS2 => ?_)
    by_cases hb2 : sb_ix 1 n < 0
    · refine mj_br_W (ad := [adK 0, adK 1]) (S := [.int (sb_ix 1 n)]) (S' := []) (t := 54) hx hb (by show some (if mj_cnd .lt (sb_ix 1 n) 0 = true then 54 else 49, []) = _; rw [if_pos (by show decide (sb_ix 1 n < 0) = true; rw [decide_eq_true_eq]; exact hb2)]) sd_s_46 rfl ?_
      refine mj_alu_W (ad := [adK 0, adK 1]) (i := .iconst 0) (S := []) (S' := [.int 0]) hx hb rfl sd_s_54 ?_
      exact fin hS2 sd_s_55 (by rw [hsob, if_neg (hv2.mp hb2)])
    refine mj_br_W (ad := [adK 0, adK 1]) (S := [.int (sb_ix 1 n)]) (S' := []) (t := 49) hx hb (by show some (if mj_cnd .lt (sb_ix 1 n) 0 = true then 54 else 49, []) = _; rw [if_neg (by show ¬ decide (sb_ix 1 n < 0) = true; rw [decide_eq_true_eq]; exact hb2)]) sd_s_46 rfl ?_
    refine mj_alu_W (ad := [adK 0, adK 1]) (i := .bipush 7) (S := []) (S' := [.int 7]) hx hb rfl sd_s_49 ?_
    refine mj_br_W (ad := [adK 0, adK 1]) (S := [.int 7]) (S' := [.int 7]) (t := 55) hx hb rfl sd_s_51 rfl ?_
    exact fin hS2 sd_s_55 (by rw [hsob, if_pos (Classical.byContradiction fun z => hb2 (hv2.mpr z))])
  · refine mj_br_W (ad := [adK 0, adK 1]) (S := [.int (sb_ix 0 n)]) (S' := []) (t := 16) hx hb (by show some (if mj_cnd .lt (sb_ix 0 n) 0 = true then 18 else 16, []) = _; rw [if_neg (by show ¬ decide (sb_ix 0 n < 0) = true; rw [decide_eq_true_eq]; exact hb1)]) sd_s_13 rfl ?_
    refine mj_alu_W (ad := [adK 0, adK 1]) (i := .iconst 5) (S := []) (S' := [.int 5]) hx hb rfl sd_s_16 ?_
    exact fin hS1 sd_s_17 (by rw [hsob, if_pos (Classical.byContradiction fun z => hb1 (hv1.mpr z))])
