/-! strings: Tokens.sortOfByte, which asks two String constants by indexOf -/
-- the JDK's methods on the bytes are a program of their own
def sb_ms : List mj_MS := [
  ((⟨"java/lang/StringLatin1", "indexOf", "([BIII)I"⟩, prog_20_method_22_code, 4, some .int, 0, false), 2, 0, 4),
  ((⟨"java/lang/StringLatin1", "canEncode", "(I)Z"⟩, prog_20_method_4_code, 1, some .boolean, 0, false), 2, 0, 1),
  ((⟨"java/lang/StringLatin1", "indexOfChar", "([BIII)I"⟩, prog_20_method_23_code, 6, some .int, 0, false), 2, 0, 4)]
def sb_TL : List (String × mj_TL) := [("java/lang/StringLatin1", [], [], [], [], [], [], [(88, (2, 1, 1, 0), false), (92, (4, 0, 2, 0), false), (38, (4, 1, 2, 0), false), (95, (2, 2, 4, 0), false)])]
def sb_Tg : List Cond := mj_Ts [] [] [] sb_ms "" sb_TL
theorem sb_gw : (sb_Tg.all goodWord) = true := by decide +kernel
theorem sb_chM : sb_ms.all (mj_chM [] sb_TL) = true := by decide +kernel
theorem sb_chL : sb_TL.all (mj_chT1 [] [] [] sb_ms 1) = true := by decide +kernel
theorem sb_good : mj_good sb_Tg := fun w hw => good_of_word (List.all_eq_true.mp sb_gw w hw)
def sb_Z : mj_Z := ([], [], (0, [], [], fun _ => 0, fun _ => 0), 0, 0)
theorem sb_okP (xa : Nat → Nat) : mj_okP sb_Tg [] sb_Z (mj_cl []) [] 1 xa (mj_mmof sb_ms) (mj_TTof sb_TL) (mj_nmof sb_TL) := mj_okP_of (c5 := []) (tl := []) (zl := []) (c0 := 1) (host := "") (ms := sb_ms) (TL := sb_TL) (Tg := sb_Tg) (Ns := []) xa [] sb_Z.2 (fun w hw => List.mem_append_left _ hw) sb_good (fun w hw => by cases hw) rfl rfl sb_chM sb_chL
theorem sb_no7 : mj_w7 ∉ sb_Tg := by decide +kernel
def sb_byt (i : Nat) : List Int32 := ([mj_verbs, mj_marks] : List (List Int32)).getD i []
def sb_len (i : Nat) : Nat := ([19, 8] : List Nat).getD i 0
def sb_x (i : Nat) : mj_X := fun k => match k with
  | 0 => some (.byte, sb_len i, fun j => .int ((sb_byt i).getD j 0))
  | _ => none
def sb_h : mj_H := [.inl (0, 0, .inl fun _ => 0)]
theorem sd_C_0 : mj_dec prog_20_method_4_code 0 = some (.iload_n 0, 1) := by decide +kernel
theorem sd_C_1 : mj_dec prog_20_method_4_code 1 = some (.ifCond .lt 14, 3) := by decide +kernel
theorem sd_C_4 : mj_dec prog_20_method_4_code 4 = some (.iload_n 0, 1) := by decide +kernel
theorem sd_C_5 : mj_dec prog_20_method_4_code 5 = some (.sipush 255, 3) := by decide +kernel
theorem sd_C_8 : mj_dec prog_20_method_4_code 8 = some (.if_icmp .gt 7, 3) := by decide +kernel
theorem sd_C_11 : mj_dec prog_20_method_4_code 11 = some (.iconst 1, 1) := by decide +kernel
theorem sd_C_12 : mj_dec prog_20_method_4_code 12 = some (.goto 4, 3) := by decide +kernel
theorem sd_C_15 : mj_dec prog_20_method_4_code 15 = some (.iconst 0, 1) := by decide +kernel
theorem sd_C_16 : mj_dec prog_20_method_4_code 16 = some (.ireturn, 1) := by decide +kernel
theorem sd_I_0 : mj_dec prog_20_method_22_code 0 = some (.iload_n 1, 1) := by decide +kernel
theorem sd_I_1 : mj_dec prog_20_method_22_code 1 = some (.invokestatic 88, 3) := by decide +kernel
theorem sd_I_4 : mj_dec prog_20_method_22_code 4 = some (.ifCond .ne 5, 3) := by decide +kernel
theorem sd_I_9 : mj_dec prog_20_method_22_code 9 = some (.iload_n 2, 1) := by decide +kernel
theorem sd_I_10 : mj_dec prog_20_method_22_code 10 = some (.iconst 0, 1) := by decide +kernel
theorem sd_I_11 : mj_dec prog_20_method_22_code 11 = some (.invokestatic 92, 3) := by decide +kernel
theorem sd_I_14 : mj_dec prog_20_method_22_code 14 = some (.istore_n 2, 1) := by decide +kernel
theorem sd_I_15 : mj_dec prog_20_method_22_code 15 = some (.iload_n 3, 1) := by decide +kernel
theorem sd_I_16 : mj_dec prog_20_method_22_code 16 = some (.aload_n 0, 1) := by decide +kernel
theorem sd_I_17 : mj_dec prog_20_method_22_code 17 = some (.arraylength, 1) := by decide +kernel
theorem sd_I_18 : mj_dec prog_20_method_22_code 18 = some (.invokestatic 38, 3) := by decide +kernel
theorem sd_I_21 : mj_dec prog_20_method_22_code 21 = some (.istore_n 3, 1) := by decide +kernel
theorem sd_I_22 : mj_dec prog_20_method_22_code 22 = some (.iload_n 2, 1) := by decide +kernel
theorem sd_I_23 : mj_dec prog_20_method_22_code 23 = some (.iload_n 3, 1) := by decide +kernel
theorem sd_I_24 : mj_dec prog_20_method_22_code 24 = some (.if_icmp .lt 5, 3) := by decide +kernel
theorem sd_I_29 : mj_dec prog_20_method_22_code 29 = some (.aload_n 0, 1) := by decide +kernel
theorem sd_I_30 : mj_dec prog_20_method_22_code 30 = some (.iload_n 1, 1) := by decide +kernel
theorem sd_I_31 : mj_dec prog_20_method_22_code 31 = some (.iload_n 2, 1) := by decide +kernel
theorem sd_I_32 : mj_dec prog_20_method_22_code 32 = some (.iload_n 3, 1) := by decide +kernel
theorem sd_I_33 : mj_dec prog_20_method_22_code 33 = some (.invokestatic 95, 3) := by decide +kernel
theorem sd_I_36 : mj_dec prog_20_method_22_code 36 = some (.ireturn, 1) := by decide +kernel
theorem sd_X_0 : mj_dec prog_20_method_23_code 0 = some (.iload_n 1, 1) := by decide +kernel
theorem sd_X_1 : mj_dec prog_20_method_23_code 1 = some (.i2b, 1) := by decide +kernel
theorem sd_X_2 : mj_dec prog_20_method_23_code 2 = some (.istore 4, 2) := by decide +kernel
theorem sd_X_4 : mj_dec prog_20_method_23_code 4 = some (.iload_n 2, 1) := by decide +kernel
theorem sd_X_5 : mj_dec prog_20_method_23_code 5 = some (.istore 5, 2) := by decide +kernel
theorem sd_X_7 : mj_dec prog_20_method_23_code 7 = some (.iload 5, 2) := by decide +kernel
theorem sd_X_9 : mj_dec prog_20_method_23_code 9 = some (.iload_n 3, 1) := by decide +kernel
theorem sd_X_10 : mj_dec prog_20_method_23_code 10 = some (.if_icmp .ge 21, 3) := by decide +kernel
theorem sd_X_13 : mj_dec prog_20_method_23_code 13 = some (.aload_n 0, 1) := by decide +kernel
theorem sd_X_14 : mj_dec prog_20_method_23_code 14 = some (.iload 5, 2) := by decide +kernel
theorem sd_X_16 : mj_dec prog_20_method_23_code 16 = some (.baload, 1) := by decide +kernel
theorem sd_X_17 : mj_dec prog_20_method_23_code 17 = some (.iload 4, 2) := by decide +kernel
theorem sd_X_19 : mj_dec prog_20_method_23_code 19 = some (.if_icmp .ne 6, 3) := by decide +kernel
theorem sd_X_22 : mj_dec prog_20_method_23_code 22 = some (.iload 5, 2) := by decide +kernel
theorem sd_X_24 : mj_dec prog_20_method_23_code 24 = some (.ireturn, 1) := by decide +kernel
theorem sd_X_25 : mj_dec prog_20_method_23_code 25 = some (.iinc 5 1, 3) := by decide +kernel
theorem sd_X_28 : mj_dec prog_20_method_23_code 28 = some (.goto (-21), 3) := by decide +kernel
theorem sd_X_31 : mj_dec prog_20_method_23_code 31 = some (.iconst (-1), 1) := by decide +kernel
theorem sd_X_32 : mj_dec prog_20_method_23_code 32 = some (.ireturn, 1) := by decide +kernel
/-- indexOf on what is left of a text, from place k on -/
def sb_ixF (c : Int32) : List Int32 → Nat → Int32
  | [], _ => -1
  | b :: l, k => if b = c then Int32.ofNat k else sb_ixF c l (k + 1)
def sb_ix (i n : Nat) : Int32 := sb_ixF (Int32.ofNat n) (sb_byt i) 0
theorem sb_i8 : ∀ n, n < 256 → ¬ Int32.ofNat n < 0 ∧ ¬ (255 : Int32) < Int32.ofNat n ∧ ((Int32.ofNat n).toUInt32 % 65536).toInt32 = Int32.ofNat n := by decide +kernel
/-- the char as a byte -/
def sb_c (n : Nat) : Int32 := (Int32.ofNat n).toInt8.toInt32
theorem sb_c8 : ∀ n, n < 256 → (n < 128 → sb_c n = Int32.ofNat n) ∧ (128 ≤ n → sb_c n < 0 ∧ ¬ Int32.ofNat n < 128) := by decide +kernel
theorem sb_by : ∀ i, i < 2 → ∀ b ∈ sb_byt i, ¬ b < 0 ∧ b < 128 := by decide +kernel
theorem ixF_cg {c c' : Int32} : ∀ (l : List Int32) (k : Nat), (∀ b ∈ l, b = c ↔ b = c') → sb_ixF c l k = sb_ixF c' l k := by
  intro l
  induction l with
  | nil => intro k _; rfl
  | cons b l ih =>
    intro k h
    unfold sb_ixF
    rw [ih (k + 1) (fun x hx => h x (List.mem_cons_of_mem _ hx))]
    by_cases z : b = c
    · rw [if_pos z, if_pos ((h b List.mem_cons_self).mp z)]
    · rw [if_neg z, if_neg (fun y => z ((h b List.mem_cons_self).mpr y))]
theorem sb_ixe {i n : Nat} (hi : i < 2) (hn : n < 256) : sb_ixF (sb_c n) (sb_byt i) 0 = sb_ix i n := by
  obtain ⟨h1, h2⟩ := sb_c8 n hn
  rcases Nat.lt_or_ge n 128 with z | z
  · rw [h1 z]; rfl
  · refine ixF_cg _ _ (fun b hb => ?_)
    obtain ⟨b1, b2⟩ := sb_by i hi b hb
    obtain ⟨c1, c2⟩ := h2 z
    exact ⟨fun y => absurd (y ▸ c1) b1, fun y => absurd (y ▸ b2) c2⟩
theorem sb_20 : ∀ k, k < 20 → (Int32.ofNat k).toNatClampNeg = k ∧ ¬ Int32.ofNat k < 0 ∧ Int32.ofNat k + 1 = Int32.ofNat (k + 1) := by decide +kernel
theorem sb_20c : ∀ k, k < 20 → ∀ m, m < 20 → (Int32.ofNat m ≤ Int32.ofNat k ↔ m ≤ k) := by decide +kernel
theorem sb_lens : ∀ i, i < 2 → sb_len i = (sb_byt i).length ∧ sb_len i < 20 ∧ 0 < sb_len i ∧ (Int32.ofNat (sb_len i) < 0 ↔ False) := by decide +kernel
abbrev sb_R (i d nL : Nat) (ret : Option FieldType) (cc : ByteArray) (pc : Nat) (L : mj_L) (S : List Value) (r : Option Value) : Prop := mjR (fun N => mj_call (mj_mmof sb_ms) (mj_TTof sb_TL) (sb_x i) [] 1 d N) (mj_TTof sb_TL 0).1 (mj_TTof sb_TL 0).2 (sb_x i) [] 1 nL d false ret (mj_dec cc) pc L S sb_h r sb_h
abbrev sb_C (i d k : Nat) (As : List Value) (r : Option Value) : Prop := mjC (fun N => mj_call (mj_mmof sb_ms) (mj_TTof sb_TL) (sb_x i) [] 1 d N) k As sb_h r sb_h
theorem sb_can (i d : Nat) {n : Nat} (hn : n < 256) : sb_C i (d + 1) 1 [.int (Int32.ofNat n)] (some (.int 1)) := by
  obtain ⟨h0, h255, hu⟩ := sb_i8 n hn
  refine ms_call (M := mj_mk ((⟨"java/lang/StringLatin1", "canEncode", "(I)Z"⟩, prog_20_method_4_code, 1, some .boolean, 0, false), 2, 0, 1)) rfl (Nat.le_of_ble_eq_true rfl) ?_
  show sb_R i d 1 (some .boolean) prog_20_method_4_code 0 [(0, .int (Int32.ofNat n))] [] (some (.int 1))
  refine ms1 (pc' := 1) (L' := [(0, .int (Int32.ofNat n))]) (S' := [.int (Int32.ofNat n)]) sd_C_0 rfl rfl rfl rfl ?_
  refine ms_1f (pc' := 4) (t := 15) sd_C_1 rfl (by show ¬ decide (Int32.ofNat n < 0) = true; simpa using h0) rfl ?_
  refine ms1 (pc' := 5) (L' := [(0, .int (Int32.ofNat n))]) (S' := [.int (Int32.ofNat n)]) sd_C_4 rfl rfl rfl rfl ?_
  refine ms0 (pc' := 8) (S' := [.int 255, .int (Int32.ofNat n)]) sd_C_5 rfl rfl rfl rfl ?_
  refine ms_2f (pc' := 11) (t := 15) sd_C_8 rfl (by show ¬ decide ((255 : Int32) < Int32.ofNat n) = true; simpa using h255) rfl ?_
  refine ms0 (pc' := 12) (S' := [.int 1]) sd_C_11 rfl rfl rfl rfl ?_
  refine ms2 (pc' := 16) (S' := [.int 1]) sd_C_12 rfl rfl rfl ?_
  exact ms5 sd_C_16 rfl rfl rfl
abbrev sb_L (i n k : Nat) : mj_L := [(5, .int (Int32.ofNat k)), (4, .int (sb_c n)), (0, .ref 0), (1, .int (Int32.ofNat n)), (2, .int 0), (3, .int (Int32.ofNat (sb_len i)))]
theorem sb_loop (i d : Nat) (hi : i < 2) {n : Nat} (hn : n < 256) : ∀ (l : List Int32) (k : Nat), (sb_byt i).drop k = l → k ≤ sb_len i → sb_R i d 6 (some .int) prog_20_method_23_code 7 (sb_L i n k) [] (some (.int (sb_ixF (sb_c n) l k))) := by
  obtain ⟨hl, h20, hpos, -⟩ := sb_lens i hi
  intro l
  induction l with
  | nil =>
    intro k he hk
    have hk2 : sb_len i ≤ k := by rw [hl]; exact List.drop_eq_nil_iff.mp he
    refine ms1 (pc' := 9) (L' := sb_L i n k) (S' := [.int (Int32.ofNat k)]) sd_X_7 rfl rfl rfl rfl ?_
    refine ms1 (pc' := 10) (L' := sb_L i n k) (S' := [.int (Int32.ofNat (sb_len i)), .int (Int32.ofNat k)]) sd_X_9 rfl rfl rfl rfl ?_
    refine ms_2t (pc' := 31) sd_X_10 rfl (by show decide (Int32.ofNat (sb_len i) ≤ Int32.ofNat k) = true; rw [decide_eq_true_eq]; exact (sb_20c k (by omega) _ h20).mpr hk2) ?_
    refine ms0 (pc' := 32) (S' := [.int (-1)]) sd_X_31 rfl rfl rfl rfl ?_
    exact ms5 sd_X_32 rfl rfl rfl
  | cons b l ih =>
    intro k he hk
    have hk2 : k < sb_len i := by
      rcases Nat.lt_or_ge k (sb_len i) with z | z
      · exact z
      · rw [List.drop_eq_nil_of_le (by rw [← hl]; exact z)] at he; cases he
    obtain ⟨g1, g2, g3⟩ := sb_20 k (by omega)
    have hb : (sb_byt i).getD k 0 = b := by
      have h1 : ((sb_byt i).drop k)[0]? = some b := by rw [he]; rfl
      rw [List.getElem?_drop, Nat.add_zero] at h1
      rw [List.getD_eq_getElem?_getD, h1]; rfl
    have hd1 : (sb_byt i).drop (k + 1) = l := by
      have h1 : ((sb_byt i).drop k).drop 1 = l := by rw [he]; rfl
      rw [List.drop_drop] at h1
      exact h1
    refine ms1 (pc' := 9) (L' := sb_L i n k) (S' := [.int (Int32.ofNat k)]) sd_X_7 rfl rfl rfl rfl ?_
    refine ms1 (pc' := 10) (L' := sb_L i n k) (S' := [.int (Int32.ofNat (sb_len i)), .int (Int32.ofNat k)]) sd_X_9 rfl rfl rfl rfl ?_
    refine ms_2f (pc' := 13) (t := 31) sd_X_10 rfl (by show ¬ decide (Int32.ofNat (sb_len i) ≤ Int32.ofNat k) = true; rw [decide_eq_true_eq]; exact fun z => absurd ((sb_20c k (by omega) _ h20).mp z) (by omega)) rfl ?_
    refine ms1 (pc' := 14) (L' := sb_L i n k) (S' := [.ref 0]) sd_X_13 rfl rfl rfl rfl ?_
    refine ms1 (pc' := 16) (L' := sb_L i n k) (S' := [.int (Int32.ofNat k), .ref 0]) sd_X_14 rfl rfl rfl rfl ?_
    refine ms3 (pc' := 17) (S' := [.int b]) sd_X_16 (by
      show (if Int32.ofNat k < 0 ∨ sb_len i ≤ (Int32.ofNat k).toNatClampNeg then none else some ([Value.int ((sb_byt i).getD (Int32.ofNat k).toNatClampNeg 0)], sb_h)) = some ([Value.int b], sb_h)
      rw [g1, if_neg (fun z => z.elim g2 (fun q => absurd q (by omega))), hb]) rfl rfl rfl ?_
    refine ms1 (pc' := 19) (L' := sb_L i n k) (S' := [.int (sb_c n), .int b]) sd_X_17 rfl rfl rfl rfl ?_
    unfold sb_ixF
    by_cases hbc : b = sb_c n
    · rw [if_pos hbc]
      refine ms_2f (pc' := 22) (t := 25) sd_X_19 rfl (by show ¬ (!decide (b = sb_c n)) = true; simp [hbc]) rfl ?_
      refine ms1 (pc' := 24) (L' := sb_L i n k) (S' := [.int (Int32.ofNat k)]) sd_X_22 rfl rfl rfl rfl ?_
      exact ms5 sd_X_24 rfl rfl rfl
    · rw [if_neg hbc]
      refine ms_2t (pc' := 25) sd_X_19 rfl (by show (!decide (b = sb_c n)) = true; simp [hbc]) ?_
      refine ms1 (pc' := 28) (L' := (5, .int (Int32.ofNat k + 1)) :: (sb_L i n k).tail) (S' := []) sd_X_25 rfl rfl rfl rfl ?_
      rw [g3]
      refine ms2 (pc' := 7) (S' := []) sd_X_28 rfl rfl rfl ?_
      exact ih (k + 1) hd1 (by omega)
theorem sb_ixc (i d : Nat) (hi : i < 2) {n : Nat} (hn : n < 256) : sb_C i (d + 1) 2 [.ref 0, .int (Int32.ofNat n), .int 0, .int (Int32.ofNat (sb_len i))] (some (.int (sb_ix i n))) := by
  rw [← sb_ixe hi hn]
  refine ms_call (M := mj_mk ((⟨"java/lang/StringLatin1", "indexOfChar", "([BIII)I"⟩, prog_20_method_23_code, 6, some .int, 0, false), 2, 0, 4)) rfl (Nat.le_of_ble_eq_true rfl) ?_
  show sb_R i d 6 (some .int) prog_20_method_23_code 0 [(0, .ref 0), (1, .int (Int32.ofNat n)), (2, .int 0), (3, .int (Int32.ofNat (sb_len i)))] [] (some (.int (sb_ixF (sb_c n) (sb_byt i) 0)))
  refine ms1 (pc' := 1) (L' := [(0, .ref 0), (1, .int (Int32.ofNat n)), (2, .int 0), (3, .int (Int32.ofNat (sb_len i)))]) (S' := [.int (Int32.ofNat n)]) sd_X_0 rfl rfl rfl rfl ?_
  refine ms0 (pc' := 2) (S' := [.int (sb_c n)]) sd_X_1 rfl rfl rfl rfl ?_
  refine ms1 (pc' := 4) (L' := [(4, .int (sb_c n)), (0, .ref 0), (1, .int (Int32.ofNat n)), (2, .int 0), (3, .int (Int32.ofNat (sb_len i)))]) (S' := []) sd_X_2 rfl rfl rfl rfl ?_
  refine ms1 (pc' := 5) (L' := [(4, .int (sb_c n)), (0, .ref 0), (1, .int (Int32.ofNat n)), (2, .int 0), (3, .int (Int32.ofNat (sb_len i)))]) (S' := [.int 0]) sd_X_4 rfl rfl rfl rfl ?_
  refine ms1 (pc' := 7) (L' := sb_L i n 0) (S' := []) sd_X_5 rfl rfl rfl rfl ?_
  exact sb_loop i d hi hn _ 0 rfl (Nat.zero_le _)
theorem sb_ic (i d : Nat) (hi : i < 2) {n : Nat} (hn : n < 256) : sb_C i (d + 3) 0 [.ref 0, .int (Int32.ofNat n), .int 0, .int (Int32.ofNat (sb_len i))] (some (.int (sb_ix i n))) := by
  obtain ⟨hl, h20, hpos, hneg⟩ := sb_lens i hi
  have hlt : (0 : Int32) < Int32.ofNat (sb_len i) := by
    have h1 := mt (sb_20c 0 (by omega) _ h20).mp (by omega)
    exact Int32.not_le.mp h1
  refine ms_call (M := mj_mk ((⟨"java/lang/StringLatin1", "indexOf", "([BIII)I"⟩, prog_20_method_22_code, 4, some .int, 0, false), 2, 0, 4)) rfl (Nat.le_of_ble_eq_true rfl) ?_
  generalize hLe : ([(0, .ref 0), (1, .int (Int32.ofNat n)), (2, .int 0), (3, .int (Int32.ofNat (sb_len i)))] : mj_L) = L0
  show sb_R i (d + 2) 4 (some .int) prog_20_method_22_code 0 _ [] (some (.int (sb_ix i n)))
  have hL0 : lv_args 0 [Value.ref 0, .int (Int32.ofNat n), .int 0, .int (Int32.ofNat (sb_len i))] = L0 := hLe
  rw [hL0, ← hLe]
  refine ms1 (pc' := 1) (L' := [(0, .ref 0), (1, .int (Int32.ofNat n)), (2, .int 0), (3, .int (Int32.ofNat (sb_len i)))]) (S' := [.int (Int32.ofNat n)]) sd_I_0 rfl rfl rfl rfl ?_
  refine ms4 (pc' := 4) (q := 1) (As := [.int (Int32.ofNat n)]) (rest := []) sd_I_1 rfl rfl (sb_can i (d + 1) hn) rfl rfl rfl ?_
  refine ms_1t (pc' := 9) sd_I_4 rfl (by decide) ?_
  refine ms1 (pc' := 10) (L' := [(0, .ref 0), (1, .int (Int32.ofNat n)), (2, .int 0), (3, .int (Int32.ofNat (sb_len i)))]) (S' := [.int 0]) sd_I_9 rfl rfl rfl rfl ?_
  refine ms0 (pc' := 11) (S' := [.int 0, .int 0]) sd_I_10 rfl rfl rfl rfl ?_
  refine ms4p (pc' := 14) (S' := [.int 0]) sd_I_11 rfl (Nat.succ_pos _) rfl rfl rfl ?_
  refine ms1 (pc' := 15) (L' := [(2, .int 0), (0, .ref 0), (1, .int (Int32.ofNat n)), (3, .int (Int32.ofNat (sb_len i)))]) (S' := []) sd_I_14 rfl rfl rfl rfl ?_
  refine ms1 (pc' := 16) (L' := [(2, .int 0), (0, .ref 0), (1, .int (Int32.ofNat n)), (3, .int (Int32.ofNat (sb_len i)))]) (S' := [.int (Int32.ofNat (sb_len i))]) sd_I_15 rfl rfl rfl rfl ?_
  refine ms1 (pc' := 17) (L' := [(2, .int 0), (0, .ref 0), (1, .int (Int32.ofNat n)), (3, .int (Int32.ofNat (sb_len i)))]) (S' := [.ref 0, .int (Int32.ofNat (sb_len i))]) sd_I_16 rfl rfl rfl rfl ?_
  refine ms3 (pc' := 18) (S' := [.int (Int32.ofNat (sb_len i)), .int (Int32.ofNat (sb_len i))]) sd_I_17 rfl rfl rfl rfl ?_
  refine ms4p (pc' := 21) (S' := [.int (Int32.ofNat (sb_len i))]) sd_I_18 (by
    show (if mj_room [] = true then some ([Value.int (if Int32.ofNat (sb_len i) < Int32.ofNat (sb_len i) then Int32.ofNat (sb_len i) else Int32.ofNat (sb_len i))], sb_h) else none) = _
    rw [if_pos (by decide), ite_self]) (Nat.succ_pos _) rfl rfl rfl ?_
  refine ms1 (pc' := 22) (L' := [(3, .int (Int32.ofNat (sb_len i))), (2, .int 0), (0, .ref 0), (1, .int (Int32.ofNat n))]) (S' := []) sd_I_21 rfl rfl rfl rfl ?_
  refine ms1 (pc' := 23) (L' := [(3, .int (Int32.ofNat (sb_len i))), (2, .int 0), (0, .ref 0), (1, .int (Int32.ofNat n))]) (S' := [.int 0]) sd_I_22 rfl rfl rfl rfl ?_
  refine ms1 (pc' := 24) (L' := [(3, .int (Int32.ofNat (sb_len i))), (2, .int 0), (0, .ref 0), (1, .int (Int32.ofNat n))]) (S' := [.int (Int32.ofNat (sb_len i)), .int 0]) sd_I_23 rfl rfl rfl rfl ?_
  refine ms_2t (pc' := 29) sd_I_24 rfl (by show decide ((0 : Int32) < Int32.ofNat (sb_len i)) = true; rw [decide_eq_true_eq]; exact hlt) ?_
  refine ms1 (pc' := 30) (L' := [(3, .int (Int32.ofNat (sb_len i))), (2, .int 0), (0, .ref 0), (1, .int (Int32.ofNat n))]) (S' := [.ref 0]) sd_I_29 rfl rfl rfl rfl ?_
  refine ms1 (pc' := 31) (L' := [(3, .int (Int32.ofNat (sb_len i))), (2, .int 0), (0, .ref 0), (1, .int (Int32.ofNat n))]) (S' := [.int (Int32.ofNat n), .ref 0]) sd_I_30 rfl rfl rfl rfl ?_
  refine ms1 (pc' := 32) (L' := [(3, .int (Int32.ofNat (sb_len i))), (2, .int 0), (0, .ref 0), (1, .int (Int32.ofNat n))]) (S' := [.int 0, .int (Int32.ofNat n), .ref 0]) sd_I_31 rfl rfl rfl rfl ?_
  refine ms1 (pc' := 33) (L' := [(3, .int (Int32.ofNat (sb_len i))), (2, .int 0), (0, .ref 0), (1, .int (Int32.ofNat n))]) (S' := [.int (Int32.ofNat (sb_len i)), .int 0, .int (Int32.ofNat n), .ref 0]) sd_I_32 rfl rfl rfl rfl ?_
  refine ms4 (pc' := 36) (q := 2) (As := [.ref 0, .int (Int32.ofNat n), .int 0, .int (Int32.ofNat (sb_len i))]) (rest := []) sd_I_33 rfl rfl (sb_ixc i (d + 1) hi hn) rfl rfl rfl ?_
  exact ms5 sd_I_36 rfl rfl rfl
