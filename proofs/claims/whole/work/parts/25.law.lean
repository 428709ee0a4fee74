/-! the claim out of runs of the small machine -/
def pg_xt (L : Nat) (xs : Nat → Int32) : mj_X := fun k => match k with
  | 0 => some (.int, L, fun j => .int (xs j))
  | 1 => some (.long, 0, fun _ => .long 0)
  | _ => none
def pg_h0 : mj_H := [.inl (0, 0, .inl fun _ => 0), .inl (0, 0, .inl fun _ => 0)]
def pg_call (xt : mj_X) (d N : Nat) : Nat → List Value → mj_H → mj_R := mj_call (mj_mmof pg_ms) (mj_TTof pg_TL) xt pg_tl 2 d N
/-- the law's own run over a script of L ints -/
def pg_law (L : Nat) (xs : Nat → Int32) (N : Nat) : mj_R := mj_run (pg_call (pg_xt L xs) 2000 N) (mj_TTof pg_TL pg_lo).1 (mj_TTof pg_TL pg_lo).2 (pg_xt L xs) pg_tl 2 4 2000 false (some .boolean) (mj_dec code) N 0 [(0, .ref 0)] [] pg_h0
def pg_tx1 : String := "+-*%&|<>=~!,#?@$^._"
def pg_tx2 : String := ";()[]{}:"
def pg_str (i : Nat) : Term := .string "ArrayCalculator$Tokens" (if i = 0 then 108 else 115)
def pg_gv : Cond := Jvm.Cond.and given_1 narrow_1
theorem pg_strE : ∀ i, i < 2 → Cond.exactly (pg_str i) "java/lang/String" ∈ flatC pg_gv := by decide +kernel
theorem pg_strC : ∀ i, i < 2 → Cond.eq (.field (pg_str i) "java/lang/String" "coder" "B") (.int 0) ∈ flatC pg_gv := by decide +kernel
theorem pg_strA : ∀ i, i < 2 → Cond.arrayOf (.field (pg_str i) "java/lang/String" "value" "[B") .byte ∈ flatC pg_gv := by decide +kernel
theorem pg_strL : ∀ i, i < 2 → Cond.eq (.length (.field (pg_str i) "java/lang/String" "value" "[B")) (.int (Int32.ofNat (([19, 8] : List Nat).getD i 0))) ∈ flatC pg_gv := by decide +kernel
theorem pg_strB : ∀ i, i < 2 → ∀ j, j < ([19, 8] : List Nat).getD i 0 → Cond.eq (.elem (.field (pg_str i) "java/lang/String" "value" "[B") (.int (Int32.ofNat j))) (.int ((([mj_verbs, mj_marks] : List (List Int32)).getD i []).getD j 0)) ∈ flatC pg_gv := by decide +kernel
theorem pg_strN : Cond.not (Cond.eq (pg_str 0) (pg_str 1)) ∈ flatC pg_gv := by decide +kernel
set_option maxHeartbeats 4000000 in
theorem pg_start {p : Program} {e : Env} {s : State} {m : MethodId} {below : List Frame} {meth : Method} {c : Code} (l : Launch) {b L : Nat} {xs : Nat → Int32} (C0 : lw_At p s m meth c b L xs) (hpure : ∃ N h', pg_law L xs N = some (some (.int 1), h') ∧ h'.length ≤ 600002 ∧ mj_sl h' ≤ 7302250) : W p l e room_1 s m #[Value.ref b] below meth c s.heap [] 0 0 (lw_Z below #[Value.ref b] s) (entryFrame m ([Value.ref b] : List Value).toArray 4) := by
  obtain ⟨hx, hb, hr, hml, hown, hts, hX, hbl, hlocks, hgv⟩ := C0
  obtain ⟨N, h', hrun, hcell, hslot⟩ := hpure
  have hs := flat_of_before _ hgv
  have harr : (Cond.arrayOf (.static "ArrayCalculator" "NO_NUMBERS" "[J") .long).before #[Value.ref b] s = true := hs _ (by decide +kernel)
  have hlen : (Term.length (.static "ArrayCalculator" "NO_NUMBERS" "[J")).eval #[Value.ref b] s none [] s = some (.int (Int32.ofNat 0)) := va_eqt (hs (Cond.eq (.length (.static "ArrayCalculator" "NO_NUMBERS" "[J")) (.int 0)) (by decide +kernel))
  obtain ⟨A, hAd⟩ : ∃ A : Nat → Prop, A = fun q => s.heap.size ≤ q := ⟨_, rfl⟩
  have hnA : ∀ a : Nat, a < s.heap.size → ¬ A a := fun a h => by rw [hAd]; exact Nat.not_le.mpr h
  have hAq : ∀ q : Nat, s.heap.size ≤ q → A q := fun q h => by rw [hAd]; exact h
  obtain ⟨t, ht, hT⟩ := va_Tof (N := 0) (f := fun _ => .long 0) (A := A) (by decide) harr hlen (fun j hj => absurd hj (Nat.not_lt_zero j)) hnA
  have hZ := va_Zof (A := A) (hts _ pg_ls) (hts _ pg_ini) ht hnA
  have hZ2 := va_Zof (A := A) (hts _ pg_ls2) (hts _ pg_ini2) (va_eqt (hs (Cond.eq (.static "java/lang/String" "COMPACT_STRINGS" "Z") (.int 1)) (by decide +kernel))) hnA
  obtain ⟨adK, adV, hSt, hStr⟩ := vk_Sof (args := #[Value.ref b]) (s := s) (N := 2) (tm := pg_str) (len := [19, 8]) (byt := [mj_verbs, mj_marks]) (A := A) (by decide +kernel) (fun i hi => hs _ (pg_strE i hi)) (fun i hi => hs _ (pg_strC i hi)) (fun i hi => hs _ (pg_strA i hi)) (fun i hi => hs _ (pg_strL i hi)) (fun i hi j hj => hs _ (pg_strB i hi j hj)) (fun i j hi hj hij => by
    rcases (show i = 0 ∧ j = 1 ∨ i = 1 ∧ j = 0 by omega) with ⟨rfl, rfl⟩ | ⟨rfl, rfl⟩
    · exact Or.inl (hs _ pg_strN)
    · exact Or.inr (hs _ pg_strN)) hnA
  have hR1 : vk_R "ArrayCalculator$Tokens" 108 pg_tx1 (adK 0) s := vk_R.of (hts _ pg_sr1) (hStr 0 (by decide))
  have hR2 : vk_R "ArrayCalculator$Tokens" 115 pg_tx2 (adK 1) s := vk_R.of (hts _ pg_sr2) (hStr 1 (by decide))
  obtain ⟨D, hKc⟩ := mj_known (c5 := pg_c5) hts (fun q hq => ⟨fun w hw => pg_in pg_wq w (List.mem_flatMap.mpr ⟨q, hq, hw⟩), pg_in pg_wi _ (List.mem_map.mpr ⟨q, hq, rfl⟩)⟩)
  obtain ⟨tys, htl, hKt⟩ := mj_arrs (s := s) (args := #[Value.ref b]) pg_tl (fun q hq => hts _ (pg_in pg_wa _ (List.mem_map.mpr ⟨q, hq, rfl⟩)))
  have hK : va_K D (mj_cl pg_c5) tys s := ⟨hKc, hKt⟩
  obtain ⟨xa, hxa0, hxa1⟩ : ∃ xa : Nat → Nat, xa 0 = b ∧ xa 1 = t := ⟨fun k => if k = 0 then b else t, rfl, rfl⟩
  have hXok : mj_Xok (pg_xt L xs) 2 xa A s s.heap := by
    intro k ty n f hk
    unfold pg_xt at hk
    split at hk
    · cases hk
      obtain ⟨scr, g1, g2, g3, g4, g5⟩ := hX
      refine ⟨by decide, scr, by rw [hxa0]; exact g1, g2, g3, by omega, by rw [g4], g5, by rw [hxa0]; exact hnA b hbl⟩
    · cases hk
      exact ⟨by decide, by rw [hxa1]; exact hT⟩
    · cases hk
  obtain ⟨Zs, hZs⟩ : ∃ Zs : mj_Z, Zs = mj_Zof pg_zl xa [("java/lang/String", "COMPACT_STRINGS", "Z", .int 1)] ([("ArrayCalculator$Tokens", 108, pg_tx1, adK 0), ("ArrayCalculator$Tokens", 115, pg_tx2, adK 1)], (2, [19, 8], [mj_verbs, mj_marks], adK, adV), 8, 400) := ⟨_, rfl⟩
  have hZok : mj_Zok Zs A s s.heap := by
    rw [hZs]
    refine ⟨fun z hz => ?_, fun r hr => ?_, hSt⟩
    · rcases List.mem_cons.mp hz with rfl | hz
      · show va_Z "ArrayCalculator" "NO_NUMBERS" "[J" (.ref (xa 1)) A s s.heap
        rw [hxa1]
        exact hZ
      · rw [List.mem_singleton.mp hz]
        exact hZ2
    · rcases List.mem_cons.mp hr with rfl | hr
      · exact hR1
      · rw [List.mem_singleton.mp hr]
        exact hR2
  have hP := pg_okP xa [("java/lang/String", "COMPACT_STRINGS", "Z", .int 1)] ([("ArrayCalculator$Tokens", 108, pg_tx1, adK 0), ("ArrayCalculator$Tokens", 115, pg_tx2, adK 1)], (2, [19, 8], [mj_verbs, mj_marks], adK, adV), 8, 400)
  rw [← hZs] at hP
  have htsg : ∀ w ∈ pg_Tg ++ pg_Ns, w.before #[Value.ref b] s = true := fun w hw => hts w (pg_Tx_in w ((List.mem_append.mp hw).elim (fun z => (List.mem_filter.mp z).1) (fun z => List.mem_append_left _ (List.mem_filter.mp z).1)))
  obtain ⟨oF, oC, oN, oA, oS0, oSt, oM⟩ := hP.2.1 pg_lo
  have hn : mj_nmof pg_TL pg_lo = R_law := rfl
  rw [hn] at oF oC oN oA oSt oM
  have hCtx : mj_Ctx p s m #[Value.ref b] meth c code 4 D (mj_cl pg_c5) tys pg_tl A 2 (pg_Tg ++ pg_Ns) R_law (mj_TTof pg_TL pg_lo).1 false := ⟨hx, hb, hml, htsg, hown, hK, htl, hAq, (fun z => by cases z), oF, oC, oN, oA, oS0⟩
  have hI : mj_I D (mj_cl pg_c5) tys A 2 s.heap [b, t] pg_h0 s.heap [] := by
    have e0 : (mj_W tys [b, t] pg_h0).drop 2 = [] := rfl
    refine ⟨rfl, Nat.le_refl _, fun e he => ?_, ?_, ?_, va_S.rf, trivial⟩
    · rcases List.mem_cons.mp he with rfl | he
      · trivial
      · rw [List.mem_singleton.mp he]; trivial
    · rw [e0]; intro k q hq; simp at hq
    · rw [e0]; exact ⟨fun i j p q hp => by simp at hp, fun k q hq => by simp at hq⟩
  have hl := lv_entry ([.ref b]) (n := 4) (Nat.le_of_ble_eq_true rfl)
  rw [lg_entry_eq]
  have hl2 : lv_has ((lg_sl ([.ref b]) ++ List.replicate (4 - (lg_sl ([.ref b])).length) Slot.unset).toArray) 4 (mj_ls [b, t] [(0, .ref 0)]) := hl
  have hxa : ∀ k, k < 2 → ([b, t] : List Nat).getD k 0 = xa k := fun k hk => by
    rcases (show k = 0 ∨ k = 1 by omega) with rfl | rfl
    · exact hxa0.symm
    · exact hxa1.symm
  have hlok : mj_lok pg_h0.length [(0, Value.ref 0)] := fun q hq k hk => by
    rw [List.mem_singleton.mp hq] at hk
    cases hk
    decide
  have hnil : mj_sok pg_h0.length [] := fun v hv => by cases hv
  have h7 : mj_S7 l pg_Ns Zs (pg_xt L xs) xa D (mj_cl pg_c5) tys 2 pg_Tg := sb_S7 (adK := adK) (adV := adV) (tx1 := pg_tx1) (tx2 := pg_tx2) pg_sbT (by rw [hZs]; exact Nat.le_of_ble_eq_true rfl) (by rw [hZs]; exact Nat.le_of_ble_eq_true rfl) (by rw [hZs]; exact List.mem_cons_of_mem _ List.mem_cons_self) (by rw [hZs]; exact List.mem_cons_self) (by rw [hZs]; exact List.mem_cons_of_mem _ List.mem_cons_self) (by rw [hZs]; rfl)
  refine mj_run_W (R := room_1) (dep := 2000) (Q := lw_Z below #[Value.ref b] s) (cc := code) (nL := 4) (xa := xa) (l := l) (e := e) (below := below) hCtx (mj_okS_of hx hb htsg hown hZok oSt) oM hP.1.1 hP.1.2 hZok hXok (mj_okP_keeps hP 2000 N) h7 (fun k As h r h1 _ => ⟨1999, mj_call_sound hP htl h7 1999 N, by rw [hZs]; exact Nat.le_of_ble_eq_true rfl, by rw [hZs]; exact Nat.le_of_ble_eq_true rfl⟩) (fun _ => ⟨by rw [hZs]; exact Nat.le_of_ble_eq_true rfl, by rw [hZs]; exact Nat.le_of_ble_eq_true rfl⟩) (fun pc i len h => mj_dec_ok h) _ _ _ _ _ _ _ hrun [b, t] s.heap [] 0 0 (h'.length - pg_h0.length) (mj_sl h' - mj_sl pg_h0) _ hl2 hlok hnil hI hxa (Nat.zero_add _) (Nat.zero_add _) ?_ ?_ ?_
  · show h'.length - 2 ≤ 600000
    omega
  · show mj_sl h' - 0 ≤ 7302250
    omega
  · intro pc ls b2 H' locs' i S hdg hret hI'
    have hS := mj_ret_S hret
    subst hS
    have hi : i = .ireturn := by
      unfold mj_ret at hret
      split at hret
      · cases hret
      · rfl
      · cases hret
      · cases hret
      · cases hret
    subst hi
    refine va_forget (fun q hq => by have := hI'.2.2.2.2.2.1.2.2 q hq; rw [hAd] at this; exact this) ?_
    refine W.widen (k := 600000) (n := 7302250) (by show h'.length - 2 ≤ 600000; omega) (by show mj_sl h' - 0 ≤ 7302250; omega) ?_
    exact lw_ret hx hb hr hlocks hdg
