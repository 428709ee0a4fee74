/-! gathering: how many of the first k are so -/
def cnB (p : Nat → Bool) : Nat → Nat
  | 0 => 0
  | k + 1 => cnB p k + (if p k = true then 1 else 0)
theorem cnB_le (p : Nat → Bool) : ∀ k, cnB p k ≤ k := by
  intro k
  induction k with
  | zero => exact Nat.le_refl _
  | succ k ih => show cnB p k + (if p k = true then 1 else 0) ≤ k + 1; split <;> omega
theorem cnB_all {p : Nat → Bool} : ∀ {n : Nat}, cnB p n = n → allN n p = true := by
  intro n
  induction n with
  | zero => intro _; exact allN_iff.mpr (fun k hk => absurd hk (Nat.not_lt_zero k))
  | succ n ih =>
    intro h
    have h : cnB p n + (if p n = true then 1 else 0) = n + 1 := h
    have l := cnB_le p n
    by_cases z : p n = true
    · rw [if_pos z] at h
      have a := allN_iff.mp (ih (by omega))
      exact allN_iff.mpr (fun k hk => by
        by_cases y : k = n
        · rw [y]; exact z
        · exact a k (by omega))
    · rw [if_neg z] at h; omega
theorem cnB_n {p : Nat → Bool} : ∀ {n : Nat}, allN n p = true → cnB p n = n := by
  intro n
  induction n with
  | zero => intro _; rfl
  | succ n ih =>
    intro h
    have a := allN_iff.mp h
    show cnB p n + (if p n = true then 1 else 0) = n + 1
    rw [if_pos (a n (by omega)), ih (allN_iff.mpr (fun k hk => a k (by omega)))]
theorem cnB_s1 {p : Nat → Bool} {k : Nat} (h : p k = true) : cnB p (k + 1) = cnB p k + 1 := by show cnB p k + (if p k = true then 1 else 0) = _; rw [if_pos h]
theorem cnB_s0 {p : Nat → Bool} {k : Nat} (h : ¬ p k = true) : cnB p (k + 1) = cnB p k := by show cnB p k + (if p k = true then 1 else 0) = _; rw [if_neg h]; rfl
abbrev isNb (ch : Nat → VV) (k : Nat) : Bool := decide (vk (ch k) = 0)
abbrev isSg (ch : Nat → VV) (k : Nat) : Bool := decide (vk (ch k) = 1)
theorem gaV_n {n : Nat} {ch : Nat → VV} (h0 : 0 < n) (h : cnB (isNb ch) n = n) (hn : n ≤ 120) : gaV n ch = .inr (vrow (vform n (fun k => vn (ch k) 0)) n (fun k => vn (ch k) 0)) := by
  unfold gaV; rw [if_pos ⟨h0, cnB_all h⟩, if_neg (by omega)]
theorem gaV_n8 {n : Nat} {ch : Nat → VV} (h0 : 0 < n) (h : cnB (isNb ch) n = n) (hn : 120 < n) : gaV n ch = .inl 8 := by
  unfold gaV; rw [if_pos ⟨h0, cnB_all h⟩, if_pos hn]
theorem gaV_not {n : Nat} {ch : Nat → VV} (h : ¬ cnB (isNb ch) n = n) : ¬ (0 < n ∧ allN n (fun k => decide (vk (ch k) = 0)) = true) := fun z => h (cnB_n z.2)
theorem gaV_s {n : Nat} {ch : Nat → VV} (h0 : 0 < n) (h : ¬ cnB (isNb ch) n = n) (h2 : cnB (isSg ch) n = n) (hn : n ≤ 120) : gaV n ch = .inr (vrow 3 n (fun k => vn (ch k) 0)) := by
  unfold gaV; rw [if_neg (gaV_not h), if_pos ⟨h0, cnB_all h2⟩, if_neg (by omega)]
theorem gaV_s8 {n : Nat} {ch : Nat → VV} (h0 : 0 < n) (h : ¬ cnB (isNb ch) n = n) (h2 : cnB (isSg ch) n = n) (hn : 120 < n) : gaV n ch = .inl 8 := by
  unfold gaV; rw [if_neg (gaV_not h), if_pos ⟨h0, cnB_all h2⟩, if_pos hn]
theorem gaV_v {n : Nat} {ch : Nat → VV} (h : n = 0 ∨ ¬ cnB (isNb ch) n = n) (h2 : n = 0 ∨ ¬ cnB (isSg ch) n = n) (hn : n ≤ 24) : gaV n ch = .inr (vnest n ch) := by
  unfold gaV
  rw [if_neg (fun z => by rcases h with y | y; (omega); exact y (cnB_n z.2)), if_neg (fun z => by rcases h2 with y | y; (omega); exact y (cnB_n z.2)), if_neg (by omega)]
theorem gaV_v8 {n : Nat} {ch : Nat → VV} (h : ¬ cnB (isNb ch) n = n) (h2 : ¬ cnB (isSg ch) n = n) (hn : 24 < n) : gaV n ch = .inl 8 := by
  unfold gaV
  rw [if_neg (fun z => h (cnB_n z.2)), if_neg (fun z => h2 (cnB_n z.2)), if_pos hn]
theorem isNb_all {n : Nat} {ch : Nat → VV} (h : cnB (isNb ch) n = n) : ∀ k, k < n → vk (ch k) = 0 := fun k hk => of_decide_eq_true (allN_iff.mp (cnB_all h) k hk)
theorem isSg_all {n : Nat} {ch : Nat → VV} (h : cnB (isSg ch) n = n) : ∀ k, k < n → vk (ch k) = 1 := fun k hk => of_decide_eq_true (allN_iff.mp (cnB_all h) k hk)
/-- WORK, and an error or a value, where values have been put into one -/
def mGo (D : Nat) (W : Int) (o : Nat ⊕ VV) : Int × (Int ⊕ VV) := match o with
  | .inl n => (W, .inl (n : Int))
  | .inr v => if 1000 < vsz D v ∨ 5 < vlv D v then (W, .inl 8) else if W < 3 + (vsz D v : Int) then (W, .inl 10) else (W - (3 + (vsz D v : Int)), .inr v)
def mGat (A : Nat → Prop) (h : mj_H) (D t n : Nat) (sf : Nat → Option Nat) (dp ca ou pl pp : Int) (nw vx vy : Value) (lv : Int) (lf rt : Value) (r : Int × (Int ⊕ VV)) (a b : Nat) (h' : mj_H) : Prop := MA h h' ∧ h'.length ≤ h.length + a ∧ mj_sl h' ≤ mj_sl h + b ∧ (match r.2 with
  | .inl c => h'[16]? = some (mcC ((t + n : Nat) : Int) dp ca ou r.1 c (if 0 < ca then ou else pp) nw vx vy .null lv lf rt) ∧ h'[32]? = some (cA 4 8192 sf)
  | .inr v => ∃ q : Nat, h'[16]? = some (mcC ((t + 1 : Nat) : Int) dp ca ou r.1 0 pl nw vx vy .null lv lf rt) ∧ h'[32]? = some (cA 4 8192 (va_up sf t (some q))) ∧ cv (newA A h h') h' D q v)
section mGats
variable {A : Nat → Prop} {h g : mj_H} {D t n a b q : Nat} {sf : Nat → Option Nat} {dp ca ou pl pp lv W : Int} {nw vx vy lf rt : Value} {c : mj_E} {v : VV}
theorem mGat_e {x : Int} {r : Value} (hl : 127 ≤ h.length) (h16 : h[16]? = some c) (hs : ∀ W' e' p', mj_sl1 (mcC ((t + n : Nat) : Int) dp ca ou W' e' p' nw vx vy .null lv lf rt) = mj_sl1 c) (hH : actH h) (h32 : h[32]? = some (cA 4 8192 sf)) (hr : vres A h D v a b r g) : mGat A h D t n sf dp ca ou pl pp nw vx vy lv lf rt (W, .inl x) a b (g.set 16 (mcC ((t + n : Nat) : Int) dp ca ou W x (if 0 < ca then ou else pp) nw vx vy .null lv lf rt)) := by
  obtain ⟨q, X, -, rfl, x1, x2, -⟩ := hr
  have hX : (h ++ X).length = h.length + X.length := List.length_append
  refine ⟨⟨fun y y1 y2 y3 y4 => ?_, by rw [List.length_set]; omega, actH_st (Or.inl rfl) (actH_app hH)⟩, by rw [List.length_set]; omega, ?_, List.getElem?_set_self (by omega), ?_⟩
  · rw [List.getElem?_set_ne (Ne.symm y3), List.getElem?_append_left y1]
  · rw [sl_set (e' := mcC ((t + n : Nat) : Int) dp ca ou W x (if 0 < ca then ou else pp) nw vx vy .null lv lf rt) (hl_app h16) (hs _ _ _), sl_app]; omega
  · rw [List.getElem?_set_ne (by decide)]; exact hl_app h32
theorem mGat_0 {x : Int} (hl : 127 ≤ h.length) (h16 : h[16]? = some c) (hs : ∀ W' e' p', mj_sl1 (mcC ((t + n : Nat) : Int) dp ca ou W' e' p' nw vx vy .null lv lf rt) = mj_sl1 c) (hH : actH h) (h32 : h[32]? = some (cA 4 8192 sf)) : mGat A h D t n sf dp ca ou pl pp nw vx vy lv lf rt (W, .inl x) a b (h.set 16 (mcC ((t + n : Nat) : Int) dp ca ou W x (if 0 < ca then ou else pp) nw vx vy .null lv lf rt)) := by
  refine ⟨⟨fun y y1 y2 y3 y4 => List.getElem?_set_ne (Ne.symm y3), by rw [List.length_set]; exact Nat.le_refl _, actH_st (Or.inl rfl) hH⟩, by rw [List.length_set]; omega, ?_, List.getElem?_set_self (by omega), ?_⟩
  · rw [sl_set (e' := mcC ((t + n : Nat) : Int) dp ca ou W x (if 0 < ca then ou else pp) nw vx vy .null lv lf rt) h16 (hs _ _ _)]; omega
  · rw [List.getElem?_set_ne (by decide)]; exact h32
theorem mGat_v (hl : 127 ≤ h.length) (hA : okA A h) (h16 : h[16]? = some c) (hs : ∀ tp W', mj_sl1 (mcC tp dp ca ou W' 0 pl nw vx vy .null lv lf rt) = mj_sl1 c) (hH : actH h) (h32 : h[32]? = some (cA 4 8192 sf)) (hr : vres A h D v a b (.ref q) g) : mGat A h D t n sf dp ca ou pl pp nw vx vy lv lf rt (W, .inr v) a b ((g.set 32 (cA 4 8192 (va_up sf t (some q)))).set 16 (mcC ((t + 1 : Nat) : Int) dp ca ou W 0 pl nw vx vy .null lv lf rt)) := by
  obtain ⟨q', X, e, rfl, x1, x2, x3⟩ := hr
  have e : q = q' := by injection e
  subst e
  have hX : (h ++ X).length = h.length + X.length := List.length_append
  have nA' : ∀ y, y = 16 ∨ y = 32 → ¬ newA A h (h ++ X) y := fun y hy z => by
    rcases z with z | z
    · have := hA y z; omega
    · omega
  have h316 : ((h ++ X).set 32 (cA 4 8192 (va_up sf t (some q))))[16]? = some c := by rw [List.getElem?_set_ne (by decide)]; exact hl_app h16
  refine ⟨⟨fun y y1 y2 y3 y4 => ?_, by rw [List.length_set, List.length_set]; omega, actH_st (Or.inl rfl) (actH_st (Or.inr rfl) (actH_app hH))⟩, by rw [List.length_set, List.length_set]; omega, ?_, q, List.getElem?_set_self (by rw [List.length_set]; omega), ?_, ?_⟩
  · rw [List.getElem?_set_ne (Ne.symm y3), List.getElem?_set_ne (Ne.symm y4), List.getElem?_append_left y1]
  · rw [sl_set (e' := mcC ((t + 1 : Nat) : Int) dp ca ou W 0 pl nw vx vy .null lv lf rt) h316 (hs _ _), sl_set (e' := cA 4 8192 (va_up sf t (some q))) (hl_app h32) rfl, sl_app]; omega
  · rw [List.getElem?_set_ne (by decide)]; exact List.getElem?_set_self (by omega)
  · have e1 : newA A h (((h ++ X).set 32 (cA 4 8192 (va_up sf t (some q)))).set 16 (mcC ((t + 1 : Nat) : Int) dp ca ou W 0 pl nw vx vy .null lv lf rt)) = newA A h (h ++ X) := by unfold newA; rw [List.length_set, List.length_set]
    rw [e1]
    exact cv_set (nA' 16 (Or.inl rfl)) (cv_set (nA' 32 (Or.inr rfl)) x3)
end mGats
theorem mGo_f {D n : Nat} {W : Int} {o : Nat ⊕ VV} (h : o = .inl n) : mGo D W o = (W, .inl (n : Int)) := by rw [h]; rfl
theorem mGo_b {D : Nat} {W : Int} {v : VV} {o : Nat ⊕ VV} (h : o = .inr v) (h2 : 1000 < vsz D v ∨ 5 < vlv D v) : mGo D W o = (W, .inl 8) := by rw [h]; exact if_pos h2
theorem mGo_w {D : Nat} {W : Int} {v : VV} {o : Nat ⊕ VV} (h : o = .inr v) (h2 : ¬ (1000 < vsz D v ∨ 5 < vlv D v)) (h3 : W < 3 + (vsz D v : Int)) : mGo D W o = (W, .inl 10) := by rw [h]; exact (if_neg h2).trans (if_pos h3)
theorem mGo_v {D : Nat} {W : Int} {v : VV} {o : Nat ⊕ VV} (h : o = .inr v) (h2 : ¬ (1000 < vsz D v ∨ 5 < vlv D v)) (h3 : ¬ W < 3 + (vsz D v : Int)) : mGo D W o = (W - (3 + (vsz D v : Int)), .inr v) := by rw [h]; exact (if_neg h2).trans (if_neg h3)
set_option maxRecDepth 20000 in
theorem pm_X1_stacked : mj_mmof pg_ms 316 = some ((⟨"ArrayCalculator$Machine", "stacked", "(I)LArrayCalculator$Value;"⟩, prog_3_method_8_code, 2, (Option.some (Jvm.ClassFile.FieldType.object "ArrayCalculator$Value"))), 1, false, mj_dec prog_3_method_8_code) := rfl
theorem dm_X1_stacked_0 : mj_dec prog_3_method_8_code 0 = some (.iload_n 1, 1) := by decide +kernel
theorem dm_X1_stacked_1 : mj_dec prog_3_method_8_code 1 = some (.ifCond .lt 20, 3) := by decide +kernel
theorem dm_X1_stacked_4 : mj_dec prog_3_method_8_code 4 = some (.iload_n 1, 1) := by decide +kernel
theorem dm_X1_stacked_5 : mj_dec prog_3_method_8_code 5 = some (.aload_n 0, 1) := by decide +kernel
theorem dm_X1_stacked_6 : mj_dec prog_3_method_8_code 6 = some (.getfield 53, 3) := by decide +kernel
theorem dm_X1_stacked_9 : mj_dec prog_3_method_8_code 9 = some (.if_icmp .ge 12, 3) := by decide +kernel
theorem dm_X1_stacked_12 : mj_dec prog_3_method_8_code 12 = some (.aload_n 0, 1) := by decide +kernel
theorem dm_X1_stacked_13 : mj_dec prog_3_method_8_code 13 = some (.getfield 27, 3) := by decide +kernel
theorem dm_X1_stacked_16 : mj_dec prog_3_method_8_code 16 = some (.iload_n 1, 1) := by decide +kernel
theorem dm_X1_stacked_17 : mj_dec prog_3_method_8_code 17 = some (.aaload, 1) := by decide +kernel
theorem dm_X1_stacked_18 : mj_dec prog_3_method_8_code 18 = some (.goto 7, 3) := by decide +kernel
theorem dm_X1_stacked_25 : mj_dec prog_3_method_8_code 25 = some (.areturn, 1) := by decide +kernel
theorem m_stacked {xt : mj_X} {d j q : Nat} {h : mj_H} {sf : Nat → Option Nat} {tp dp ca ou wk er pl lv : Int} {nw vx vy dg lf rt : Value} (hd : 1 ≤ d) (h16 : h[16]? = some (mcC tp dp ca ou wk er pl nw vx vy dg lv lf rt)) (h32 : h[32]? = some (cA 4 8192 sf)) (hj : ((j : Nat) : Int) < tp) (htpb : tp ≤ 8192) (hjb : j < 8192) (hq : sf j = some q) : pgP xt d 316 [.ref 16, ii ((j : Nat) : Int)] h (.ref q) := by
  refine x_enter pm_X1_stacked (L0 := [(0, .ref 16), (1, ii ((j : Nat) : Int))]) rfl (Nat.le_of_ble_eq_true rfl) (by omega) ?_
  refine me1 (pc' := 1) (L' := [(0, .ref 16), (1, ii ((j : Nat) : Int))]) (S' := [ii ((j : Nat) : Int)]) dm_X1_stacked_0 rfl rfl rfl rfl ?_
  refine y_1lt (a := ((j : Nat) : Int)) (t := 21) (pc' := 4) dm_X1_stacked_1 rfl rfl (by omega) (fun hb1 => ?_) (fun hb1 => ?_)
  · exfalso; omega
  · refine me1 (pc' := 5) (L' := [(0, .ref 16), (1, ii ((j : Nat) : Int))]) (S' := [ii ((j : Nat) : Int)]) dm_X1_stacked_4 rfl rfl rfl rfl ?_
    refine me1 (pc' := 6) (L' := [(0, .ref 16), (1, ii ((j : Nat) : Int))]) (S' := [.ref 16, ii ((j : Nat) : Int)]) dm_X1_stacked_5 rfl rfl rfl rfl ?_
    refine me3 (pc' := 9) (S' := [ii tp, ii ((j : Nat) : Int)]) dm_X1_stacked_6 (g_get (v := ii tp) h16 rfl rfl (by decide)) rfl rfl rfl ?_
    refine y_2ge (a := ((j : Nat) : Int)) (b := tp) (t := 21) (pc' := 12) dm_X1_stacked_9 rfl rfl (by omega) (fun hb2 => ?_) (fun hb2 => ?_)
    · exfalso; omega
    · refine me1 (pc' := 13) (L' := [(0, .ref 16), (1, ii ((j : Nat) : Int))]) (S' := [.ref 16]) dm_X1_stacked_12 rfl rfl rfl rfl ?_
      refine me3 (pc' := 16) (S' := [.ref 32]) dm_X1_stacked_13 (g_get (v := .ref 32) h16 rfl rfl (by decide)) rfl rfl rfl ?_
      refine me1 (pc' := 17) (L' := [(0, .ref 16), (1, ii ((j : Nat) : Int))]) (S' := [ii ((j : Nat) : Int), .ref 32]) dm_X1_stacked_16 rfl rfl rfl rfl ?_
      refine me3 (pc' := 18) (S' := [.ref q]) dm_X1_stacked_17 (yh_aald (w := some q) rfl h32 (by omega) (by omega) (by omega) (by decide) hq) rfl rfl rfl ?_
      refine me2 (pc' := 25) (S' := [.ref q]) dm_X1_stacked_18 rfl rfl rfl ?_
      refine y_ret (r := some (.ref q)) dm_X1_stacked_25 rfl rfl rfl ?_
      exact ⟨rfl, rfl⟩
set_option maxRecDepth 20000 in
theorem pm_X1_gatherRow : mj_mmof pg_ms 162 = some ((⟨"ArrayCalculator$Machine", "gatherRow", "(III)LArrayCalculator$Value;"⟩, prog_3_method_23_code, 6, (Option.some (Jvm.ClassFile.FieldType.object "ArrayCalculator$Value"))), 1, false, mj_dec prog_3_method_23_code) := rfl
theorem dm_X1_gatherRow_0 : mj_dec prog_3_method_23_code 0 = some (.iload_n 2, 1) := by decide +kernel
theorem dm_X1_gatherRow_1 : mj_dec prog_3_method_23_code 1 = some (.newarray .long, 2) := by decide +kernel
theorem dm_X1_gatherRow_3 : mj_dec prog_3_method_23_code 3 = some (.astore 4, 2) := by decide +kernel
theorem dm_X1_gatherRow_5 : mj_dec prog_3_method_23_code 5 = some (.iconst 0, 1) := by decide +kernel
theorem dm_X1_gatherRow_6 : mj_dec prog_3_method_23_code 6 = some (.istore 5, 2) := by decide +kernel
theorem dm_X1_gatherRow_8 : mj_dec prog_3_method_23_code 8 = some (.iload 5, 2) := by decide +kernel
theorem dm_X1_gatherRow_10 : mj_dec prog_3_method_23_code 10 = some (.iload_n 2, 1) := by decide +kernel
theorem dm_X1_gatherRow_11 : mj_dec prog_3_method_23_code 11 = some (.if_icmp .ge 27, 3) := by decide +kernel
theorem dm_X1_gatherRow_14 : mj_dec prog_3_method_23_code 14 = some (.aload 4, 2) := by decide +kernel
theorem dm_X1_gatherRow_16 : mj_dec prog_3_method_23_code 16 = some (.iload 5, 2) := by decide +kernel
theorem dm_X1_gatherRow_18 : mj_dec prog_3_method_23_code 18 = some (.aload_n 0, 1) := by decide +kernel
theorem dm_X1_gatherRow_19 : mj_dec prog_3_method_23_code 19 = some (.iload_n 1, 1) := by decide +kernel
theorem dm_X1_gatherRow_20 : mj_dec prog_3_method_23_code 20 = some (.iload 5, 2) := by decide +kernel
theorem dm_X1_gatherRow_22 : mj_dec prog_3_method_23_code 22 = some (.iload_n 3, 1) := by decide +kernel
theorem dm_X1_gatherRow_23 : mj_dec prog_3_method_23_code 23 = some (.imul, 1) := by decide +kernel
theorem dm_X1_gatherRow_24 : mj_dec prog_3_method_23_code 24 = some (.iadd, 1) := by decide +kernel
theorem dm_X1_gatherRow_25 : mj_dec prog_3_method_23_code 25 = some (.invokevirtual 246, 3) := by decide +kernel
theorem dm_X1_gatherRow_28 : mj_dec prog_3_method_23_code 28 = some (.getfield 183, 3) := by decide +kernel
theorem dm_X1_gatherRow_31 : mj_dec prog_3_method_23_code 31 = some (.lastore, 1) := by decide +kernel
theorem dm_X1_gatherRow_32 : mj_dec prog_3_method_23_code 32 = some (.iinc 5 1, 3) := by decide +kernel
theorem dm_X1_gatherRow_35 : mj_dec prog_3_method_23_code 35 = some (.goto (-27), 3) := by decide +kernel
theorem dm_X1_gatherRow_38 : mj_dec prog_3_method_23_code 38 = some (.aload_n 0, 1) := by decide +kernel
theorem dm_X1_gatherRow_39 : mj_dec prog_3_method_23_code 39 = some (.iload_n 1, 1) := by decide +kernel
theorem dm_X1_gatherRow_40 : mj_dec prog_3_method_23_code 40 = some (.invokevirtual 246, 3) := by decide +kernel
theorem dm_X1_gatherRow_43 : mj_dec prog_3_method_23_code 43 = some (.getfield 180, 3) := by decide +kernel
theorem dm_X1_gatherRow_46 : mj_dec prog_3_method_23_code 46 = some (.iconst 1, 1) := by decide +kernel
theorem dm_X1_gatherRow_47 : mj_dec prog_3_method_23_code 47 = some (.if_icmp .ne 12, 3) := by decide +kernel
theorem dm_X1_gatherRow_59 : mj_dec prog_3_method_23_code 59 = some (.aload 4, 2) := by decide +kernel
theorem dm_X1_gatherRow_61 : mj_dec prog_3_method_23_code 61 = some (.invokestatic 260, 3) := by decide +kernel
theorem dm_X1_gatherRow_64 : mj_dec prog_3_method_23_code 64 = some (.areturn, 1) := by decide +kernel
theorem m_gathN {xt : mj_X} {f1 : Nat → Value} {d e n : Nat} {A : Nat → Prop} {h : mj_H} {sf : Nat → Option Nat} {ix : Nat → Nat} {ch : Nat → VV} {fr stp : Int} {tp dp ca ou wk er pl lv : Int} {nw vx vy dg lf rt : Value} (hx1 : xt 1 = some (.long, 0, f1)) (hd : 4 ≤ d) (hl : 127 ≤ h.length) (hA : okA A h) (h16 : h[16]? = some (mcC tp dp ca ou wk er pl nw vx vy dg lv lf rt)) (h32 : h[32]? = some (cA 4 8192 sf)) (hix : ∀ k, k < n → fr + (k : Int) * stp = ((ix k : Nat) : Int)) (hixb : ∀ k, k < n → ix k < 8192) (hqq : ∀ k, k < n → ∃ q, sf (ix k) = some q ∧ cv A h (e + 1) q (ch k)) (hixt : ∀ k, k < n → ((ix k : Nat) : Int) < tp) (htpb : tp ≤ 8192) (hn : n ≤ 120) (hn0 : 0 < n) (hfr0 : fr = ((ix 0 : Nat) : Int)) (hk9 : ∀ k, k < n → vk (ch k) = 0) : pgV xt d 162 [.ref 16, ii fr, ii (n : Int), ii stp] h (vres A h (e + 1) (vrow (vform n (fun k : Nat => vn (ch k) 0)) n (fun k : Nat => vn (ch k) 0)) 2 (n + 9)) := by
  refine x_enter pm_X1_gatherRow (L0 := [(0, .ref 16), (1, ii fr), (2, ii (n : Int)), (3, ii stp)]) rfl (Nat.le_of_ble_eq_true rfl) (by omega) ?_
  refine me1 (pc' := 1) (L' := [(0, .ref 16), (1, ii fr), (2, ii (n : Int)), (3, ii stp)]) (S' := [ii (n : Int)]) dm_X1_gatherRow_0 rfl rfl rfl rfl ?_
  refine me3 (pc' := 3) (S' := [.ref h.length]) (h1 := h ++ [cJ n (fun _ => 0)]) dm_X1_gatherRow_1 (yh_newJ (by omega) (by omega) (by omega) rfl) rfl rfl rfl ?_
  refine me1 (pc' := 5) (L' := [(4, .ref h.length), (0, .ref 16), (1, ii fr), (2, ii (n : Int)), (3, ii stp)]) (S' := []) dm_X1_gatherRow_3 rfl rfl rfl rfl ?_
  refine me0 (pc' := 6) (S' := [ii 0]) dm_X1_gatherRow_5 rfl rfl rfl rfl ?_
  refine me1 (pc' := 8) (L' := [(5, ii 0), (4, .ref h.length), (0, .ref 16), (1, ii fr), (2, ii (n : Int)), (3, ii stp)]) (S' := []) dm_X1_gatherRow_6 rfl rfl rfl rfl ?_
  have lp8 : ∀ (n8 : Nat) (k : Nat), n - k = n8 → (k ≤ n) → pgE xt (d - 1) 1 6 false (Option.some (Jvm.ClassFile.FieldType.object "ArrayCalculator$Value")) (mj_dec prog_3_method_23_code) 8 [(0, .ref 16), (1, ii fr), (2, ii (n : Int)), (3, ii stp), (4, .ref h.length), (5, ii (k : Int))] [] (h ++ [cJ n (fl k (fun k : Nat => cnum (ch k)) (fun _ => 0))]) (fun r h' => ∃ x, r = some x ∧ vres A h (e + 1) (vrow (vform n (fun k : Nat => vn (ch k) 0)) n (fun k : Nat => vn (ch k) 0)) 2 (n + 9) x h') := by
    intro n8
    induction n8 using Nat.strongRecOn with
    | ind n8 ih8 =>
      intro k hm8 hk
      refine me1 (pc' := 10) (L' := [(0, .ref 16), (1, ii fr), (2, ii (n : Int)), (3, ii stp), (4, .ref h.length), (5, ii (k : Int))]) (S' := [ii (k : Int)]) dm_X1_gatherRow_8 rfl rfl rfl rfl ?_
      refine me1 (pc' := 11) (L' := [(0, .ref 16), (1, ii fr), (2, ii (n : Int)), (3, ii stp), (4, .ref h.length), (5, ii (k : Int))]) (S' := [ii (n : Int), ii (k : Int)]) dm_X1_gatherRow_10 rfl rfl rfl rfl ?_
      refine y_2ge (a := (k : Int)) (b := (n : Int)) (t := 38) (pc' := 14) dm_X1_gatherRow_11 rfl rfl (by omega) (fun hb1 => ?_) (fun hb1 => ?_)
      · refine me1 (pc' := 39) (L' := [(0, .ref 16), (1, ii fr), (2, ii (n : Int)), (3, ii stp), (4, .ref h.length), (5, ii (k : Int))]) (S' := [.ref 16]) dm_X1_gatherRow_38 rfl rfl rfl rfl ?_
        refine me1 (pc' := 40) (L' := [(0, .ref 16), (1, ii fr), (2, ii (n : Int)), (3, ii stp), (4, .ref h.length), (5, ii (k : Int))]) (S' := [ii fr, .ref 16]) dm_X1_gatherRow_39 rfl rfl rfl rfl ?_
        obtain ⟨q0, hq0, hv0⟩ := hqq 0 hn0
        obtain ⟨hw0, ⟨hp20, hpA0⟩, hsz0, hlv0, row0, fr0, vals0, hp0, -, -, -, -⟩ := id hv0
        have hb0 := hixb 0 hn0
        have ht0 := hixt 0 hn0
        have hk0 := hk9 0 hn0
        have hf0 : fr = ((ix 0 : Nat) : Int) := hfr0
        have hk70 := hw0.1
        refine pg_st (S' := [ii ((ix 0 : Nat) : Int), .ref 16]) (congrArg (fun z => ii z :: [.ref 16]) hf0) ?_
        refine x_cp (pc' := 43) (v := .ref q0) (rest := []) dm_X1_gatherRow_40 rfl (g_inv (As := [ii ((ix 0 : Nat) : Int)]) (S := []) (hl_app h16) rfl rfl rfl (by decide)) rfl rfl rfl (m_stacked (by omega) (hl_app h16) (hl_app h32) (by omega) (by omega) (by omega) hq0) ?_
        refine me3 (pc' := 46) (S' := [ii (vk (ch 0) : Int)]) dm_X1_gatherRow_43 (g_get (v := ii (vk (ch 0) : Int)) (hl_app hp0) rfl rfl (by omega)) rfl rfl rfl ?_
        refine me0 (pc' := 47) (S' := [ii 1, ii (vk (ch 0) : Int)]) dm_X1_gatherRow_46 rfl rfl rfl rfl ?_
        refine y_2ne (a := (vk (ch 0) : Int)) (b := 1) (t := 59) (pc' := 50) dm_X1_gatherRow_47 rfl rfl (by omega) (fun hb2 => ?_) (fun hb2 => ?_)
        · refine me1 (pc' := 61) (L' := [(0, .ref 16), (1, ii fr), (2, ii (n : Int)), (3, ii stp), (4, .ref h.length), (5, ii (k : Int))]) (S' := [.ref h.length]) dm_X1_gatherRow_59 rfl rfl rfl rfl ?_
          refine x_cv (pc' := 64) (rest := []) dm_X1_gatherRow_61 rfl (g_invs (As := [.ref h.length]) (S := []) rfl rfl rfl) rfl rfl rfl (c_numberRow (hx1 := hx1) (q := h.length + 1) (by omega) (by simp; omega) (by simp) (show rowAt (fun _ => True) _ _ _ _ from Or.inr ⟨by omega, hl_new, by omega, trivial⟩) (by omega)) ?_
          rintro _ _ ⟨rfl, rfl⟩
          refine y_ret (r := some (.ref (h.length + 1))) dm_X1_gatherRow_64 rfl rfl rfl ?_
          have hkn : k = n := by omega
          subst hkn
          have hcn : ∀ j, j < k → cnum (ch j) = vn (ch j) 0 := fun j hj => by have := hk9 j hj; unfold cnum; rw [if_pos (by omega)]
          have hvf := vform_le (m := k) (f := (fun k : Nat => vn (ch k) 0))
          rw [vform_congr (m := k) (f := fl k (fun k : Nat => cnum (ch k)) (fun _ => 0)) (g := (fun k : Nat => vn (ch k) 0)) (fun j hj => (fl_at _ _ hj).trans (hcn j hj))]
          exact ⟨_, rfl, vres_flat (w := vrow (vform k (fun k : Nat => vn (ch k) 0)) k (fun k : Nat => vn (ch k) 0)) (by omega) (vw1_row (by omega) (by omega) hn) (by show 2 ≤ (vform k (fun k : Nat => vn (ch k) 0)); omega) (by show (vform k (fun k : Nat => vn (ch k) 0)) ≤ 6; omega) (vq_row (by omega)) (fun j hj => (fl_at _ _ hj).trans (hcn j hj)) (by omega) (by omega)⟩
        · exfalso; omega
      · refine me1 (pc' := 16) (L' := [(0, .ref 16), (1, ii fr), (2, ii (n : Int)), (3, ii stp), (4, .ref h.length), (5, ii (k : Int))]) (S' := [.ref h.length]) dm_X1_gatherRow_14 rfl rfl rfl rfl ?_
        refine me1 (pc' := 18) (L' := [(0, .ref 16), (1, ii fr), (2, ii (n : Int)), (3, ii stp), (4, .ref h.length), (5, ii (k : Int))]) (S' := [ii (k : Int), .ref h.length]) dm_X1_gatherRow_16 rfl rfl rfl rfl ?_
        refine me1 (pc' := 19) (L' := [(0, .ref 16), (1, ii fr), (2, ii (n : Int)), (3, ii stp), (4, .ref h.length), (5, ii (k : Int))]) (S' := [.ref 16, ii (k : Int), .ref h.length]) dm_X1_gatherRow_18 rfl rfl rfl rfl ?_
        refine me1 (pc' := 20) (L' := [(0, .ref 16), (1, ii fr), (2, ii (n : Int)), (3, ii stp), (4, .ref h.length), (5, ii (k : Int))]) (S' := [ii fr, .ref 16, ii (k : Int), .ref h.length]) dm_X1_gatherRow_19 rfl rfl rfl rfl ?_
        refine me1 (pc' := 22) (L' := [(0, .ref 16), (1, ii fr), (2, ii (n : Int)), (3, ii stp), (4, .ref h.length), (5, ii (k : Int))]) (S' := [ii (k : Int), ii fr, .ref 16, ii (k : Int), .ref h.length]) dm_X1_gatherRow_20 rfl rfl rfl rfl ?_
        refine me1 (pc' := 23) (L' := [(0, .ref 16), (1, ii fr), (2, ii (n : Int)), (3, ii stp), (4, .ref h.length), (5, ii (k : Int))]) (S' := [ii stp, ii (k : Int), ii fr, .ref 16, ii (k : Int), .ref h.length]) dm_X1_gatherRow_22 rfl rfl rfl rfl ?_
        refine y_imul (a := (k : Int)) (b := stp) dm_X1_gatherRow_23 (pc' := 24) rfl ?_
        refine y_iadd (a := fr) (b := (k : Int) * stp) dm_X1_gatherRow_24 (pc' := 25) rfl ?_
        obtain ⟨qk, hqk, hvk⟩ := hqq k (by omega)
        obtain ⟨hwk, ⟨hp2k, hpAk⟩, hszk, hlvk, rowk, frk, valsk, hpk, -, -, -, -⟩ := id hvk
        have hixk := hix k (by omega)
        have hbk := hixb k (by omega)
        have htk := hixt k (by omega)
        have hq127k := (hA qk hpAk).2
        have hk7k := hwk.1
        have hk9k := hk9 k (by omega)
        refine pg_st (S' := [ii ((ix k : Nat) : Int), .ref 16, ii (k : Int), .ref h.length]) (congrArg (fun z => ii z :: [.ref 16, ii (k : Int), .ref h.length]) hixk) ?_
        refine x_cp (pc' := 28) (v := .ref qk) (rest := [ii (k : Int), .ref h.length]) dm_X1_gatherRow_25 rfl (g_inv (As := [ii ((ix k : Nat) : Int)]) (S := [ii (k : Int), .ref h.length]) (hl_app h16) rfl rfl rfl (by decide)) rfl rfl rfl (m_stacked (by omega) (hl_app h16) (hl_app h32) (by omega) (by omega) (by omega) hqk) ?_
        refine me3 (pc' := 31) (S' := [.long (cnum (ch k)), ii (k : Int), .ref h.length]) dm_X1_gatherRow_28 (g_get (v := .long (cnum (ch k))) (hl_app hpk) rfl rfl (by omega)) rfl rfl rfl ?_
        refine me3 (pc' := 32) (S' := []) (h1 := h ++ [cJ n (va_up (fl k (fun k : Nat => cnum (ch k)) (fun _ => 0)) k (cnum (ch k)))]) dm_X1_gatherRow_31 (y_hs (yh_last (j := (k : Int)) hl_new (by omega) (by omega) (by omega) (by omega)) (by rw [show (k : Int).toNat = k from rfl]; exact (hl_setl))) rfl rfl rfl ?_
        refine y_iinc (pc' := 35) (L' := [(5, ii ((k : Int) + 1)), (0, .ref 16), (1, ii fr), (2, ii (n : Int)), (3, ii stp), (4, .ref h.length)]) dm_X1_gatherRow_32 (y_incp (a := (k : Int)) (c := 1) rfl rfl (by decide)) rfl ?_
        refine me2 (pc' := 8) (S' := []) dm_X1_gatherRow_35 rfl rfl rfl ?_
        refine pg_cast (h2 := h ++ [cJ n (fl (k + 1) (fun k : Nat => cnum (ch k)) (fun _ => 0))]) (congrArg (fun z => h ++ [cJ n z]) (fl_s k (fun k : Nat => cnum (ch k)) (fun _ => 0))) ?_
        exact pg_sub (L := [(0, .ref 16), (1, ii fr), (2, ii (n : Int)), (3, ii stp), (4, .ref h.length), (5, ii ((k + 1) : Int))]) rfl rfl rfl (ih8 (n - (k + 1)) (by omega) (k + 1) rfl (by omega))
  refine pg_cast (h2 := h ++ [cJ n (fl 0 (fun k : Nat => cnum (ch k)) (fun _ => 0))]) (congrArg (fun z => h ++ [cJ n z]) (fl_0 _ _).symm) ?_
  exact pg_sub (L := [(0, .ref 16), (1, ii fr), (2, ii (n : Int)), (3, ii stp), (4, .ref h.length), (5, ii (0 : Int))]) rfl rfl rfl (lp8 _ 0 rfl (Nat.zero_le _))
theorem dm_X1_gatherRow_50 : mj_dec prog_3_method_23_code 50 = some (.iconst 3, 1) := by decide +kernel
theorem dm_X1_gatherRow_51 : mj_dec prog_3_method_23_code 51 = some (.aload 4, 2) := by decide +kernel
theorem dm_X1_gatherRow_53 : mj_dec prog_3_method_23_code 53 = some (.invokestatic 256, 3) := by decide +kernel
theorem dm_X1_gatherRow_56 : mj_dec prog_3_method_23_code 56 = some (.goto 8, 3) := by decide +kernel
theorem m_gathS {xt : mj_X} {f1 : Nat → Value} {d e n : Nat} {A : Nat → Prop} {h : mj_H} {sf : Nat → Option Nat} {ix : Nat → Nat} {ch : Nat → VV} {fr stp : Int} {tp dp ca ou wk er pl lv : Int} {nw vx vy dg lf rt : Value} (hx1 : xt 1 = some (.long, 0, f1)) (hd : 4 ≤ d) (hl : 127 ≤ h.length) (hA : okA A h) (h16 : h[16]? = some (mcC tp dp ca ou wk er pl nw vx vy dg lv lf rt)) (h32 : h[32]? = some (cA 4 8192 sf)) (hix : ∀ k, k < n → fr + (k : Int) * stp = ((ix k : Nat) : Int)) (hixb : ∀ k, k < n → ix k < 8192) (hqq : ∀ k, k < n → ∃ q, sf (ix k) = some q ∧ cv A h (e + 1) q (ch k)) (hixt : ∀ k, k < n → ((ix k : Nat) : Int) < tp) (htpb : tp ≤ 8192) (hn : n ≤ 120) (hn0 : 0 < n) (hfr0 : fr = ((ix 0 : Nat) : Int)) (hk9 : ∀ k, k < n → vk (ch k) = 1) : pgV xt d 162 [.ref 16, ii fr, ii (n : Int), ii stp] h (vres A h (e + 1) (vrow 3 n (fun k : Nat => vn (ch k) 0)) 2 (n + 9)) := by
  refine x_enter pm_X1_gatherRow (L0 := [(0, .ref 16), (1, ii fr), (2, ii (n : Int)), (3, ii stp)]) rfl (Nat.le_of_ble_eq_true rfl) (by omega) ?_
  refine me1 (pc' := 1) (L' := [(0, .ref 16), (1, ii fr), (2, ii (n : Int)), (3, ii stp)]) (S' := [ii (n : Int)]) dm_X1_gatherRow_0 rfl rfl rfl rfl ?_
  refine me3 (pc' := 3) (S' := [.ref h.length]) (h1 := h ++ [cJ n (fun _ => 0)]) dm_X1_gatherRow_1 (yh_newJ (by omega) (by omega) (by omega) rfl) rfl rfl rfl ?_
  refine me1 (pc' := 5) (L' := [(4, .ref h.length), (0, .ref 16), (1, ii fr), (2, ii (n : Int)), (3, ii stp)]) (S' := []) dm_X1_gatherRow_3 rfl rfl rfl rfl ?_
  refine me0 (pc' := 6) (S' := [ii 0]) dm_X1_gatherRow_5 rfl rfl rfl rfl ?_
  refine me1 (pc' := 8) (L' := [(5, ii 0), (4, .ref h.length), (0, .ref 16), (1, ii fr), (2, ii (n : Int)), (3, ii stp)]) (S' := []) dm_X1_gatherRow_6 rfl rfl rfl rfl ?_
  have lp8 : ∀ (n8 : Nat) (k : Nat), n - k = n8 → (k ≤ n) → pgE xt (d - 1) 1 6 false (Option.some (Jvm.ClassFile.FieldType.object "ArrayCalculator$Value")) (mj_dec prog_3_method_23_code) 8 [(0, .ref 16), (1, ii fr), (2, ii (n : Int)), (3, ii stp), (4, .ref h.length), (5, ii (k : Int))] [] (h ++ [cJ n (fl k (fun k : Nat => cnum (ch k)) (fun _ => 0))]) (fun r h' => ∃ x, r = some x ∧ vres A h (e + 1) (vrow 3 n (fun k : Nat => vn (ch k) 0)) 2 (n + 9) x h') := by
    intro n8
    induction n8 using Nat.strongRecOn with
    | ind n8 ih8 =>
      intro k hm8 hk
      refine me1 (pc' := 10) (L' := [(0, .ref 16), (1, ii fr), (2, ii (n : Int)), (3, ii stp), (4, .ref h.length), (5, ii (k : Int))]) (S' := [ii (k : Int)]) dm_X1_gatherRow_8 rfl rfl rfl rfl ?_
      refine me1 (pc' := 11) (L' := [(0, .ref 16), (1, ii fr), (2, ii (n : Int)), (3, ii stp), (4, .ref h.length), (5, ii (k : Int))]) (S' := [ii (n : Int), ii (k : Int)]) dm_X1_gatherRow_10 rfl rfl rfl rfl ?_
      refine y_2ge (a := (k : Int)) (b := (n : Int)) (t := 38) (pc' := 14) dm_X1_gatherRow_11 rfl rfl (by omega) (fun hb1 => ?_) (fun hb1 => ?_)
      · refine me1 (pc' := 39) (L' := [(0, .ref 16), (1, ii fr), (2, ii (n : Int)), (3, ii stp), (4, .ref h.length), (5, ii (k : Int))]) (S' := [.ref 16]) dm_X1_gatherRow_38 rfl rfl rfl rfl ?_
        refine me1 (pc' := 40) (L' := [(0, .ref 16), (1, ii fr), (2, ii (n : Int)), (3, ii stp), (4, .ref h.length), (5, ii (k : Int))]) (S' := [ii fr, .ref 16]) dm_X1_gatherRow_39 rfl rfl rfl rfl ?_
        obtain ⟨q0, hq0, hv0⟩ := hqq 0 hn0
        obtain ⟨hw0, ⟨hp20, hpA0⟩, hsz0, hlv0, row0, fr0, vals0, hp0, -, -, -, -⟩ := id hv0
        have hb0 := hixb 0 hn0
        have ht0 := hixt 0 hn0
        have hk0 := hk9 0 hn0
        have hf0 : fr = ((ix 0 : Nat) : Int) := hfr0
        have hk70 := hw0.1
        refine pg_st (S' := [ii ((ix 0 : Nat) : Int), .ref 16]) (congrArg (fun z => ii z :: [.ref 16]) hf0) ?_
        refine x_cp (pc' := 43) (v := .ref q0) (rest := []) dm_X1_gatherRow_40 rfl (g_inv (As := [ii ((ix 0 : Nat) : Int)]) (S := []) (hl_app h16) rfl rfl rfl (by decide)) rfl rfl rfl (m_stacked (by omega) (hl_app h16) (hl_app h32) (by omega) (by omega) (by omega) hq0) ?_
        refine me3 (pc' := 46) (S' := [ii (vk (ch 0) : Int)]) dm_X1_gatherRow_43 (g_get (v := ii (vk (ch 0) : Int)) (hl_app hp0) rfl rfl (by omega)) rfl rfl rfl ?_
        refine me0 (pc' := 47) (S' := [ii 1, ii (vk (ch 0) : Int)]) dm_X1_gatherRow_46 rfl rfl rfl rfl ?_
        refine y_2ne (a := (vk (ch 0) : Int)) (b := 1) (t := 59) (pc' := 50) dm_X1_gatherRow_47 rfl rfl (by omega) (fun hb2 => ?_) (fun hb2 => ?_)
        · exfalso; omega
        · refine me0 (pc' := 51) (S' := [ii 3]) dm_X1_gatherRow_50 rfl rfl rfl rfl ?_
          refine me1 (pc' := 53) (L' := [(0, .ref 16), (1, ii fr), (2, ii (n : Int)), (3, ii stp), (4, .ref h.length), (5, ii (k : Int))]) (S' := [.ref h.length, ii 3]) dm_X1_gatherRow_51 rfl rfl rfl rfl ?_
          refine x_cv (pc' := 56) (rest := []) dm_X1_gatherRow_53 rfl (g_invs (As := [ii 3, .ref h.length]) (S := []) rfl rfl rfl) rfl rfl rfl (c_row (hx1 := hx1) (q := h.length + 1) (by omega) (by simp; omega) (by simp) (by omega) (show rowAt (fun _ => True) _ _ _ _ from Or.inr ⟨by omega, hl_new, by omega, trivial⟩) (by omega)) ?_
          rintro _ _ ⟨rfl, rfl⟩
          refine me2 (pc' := 64) (S' := [.ref (h.length + 1)]) dm_X1_gatherRow_56 rfl rfl rfl ?_
          refine y_ret (r := some (.ref (h.length + 1))) dm_X1_gatherRow_64 rfl rfl rfl ?_
          have hkn : k = n := by omega
          subst hkn
          have hcn : ∀ j, j < k → cnum (ch j) = vn (ch j) 0 := fun j hj => by have := hk9 j hj; unfold cnum; rw [if_pos (by omega)]
          exact ⟨_, rfl, vres_flat (w := vrow 3 k (fun k : Nat => vn (ch k) 0)) (by omega) (vw1_row (by omega) (by omega) hn) (by show 2 ≤ 3; omega) (by show 3 ≤ 6; omega) (vq_row (by omega)) (fun j hj => (fl_at _ _ hj).trans (hcn j hj)) (by omega) (by omega)⟩
      · refine me1 (pc' := 16) (L' := [(0, .ref 16), (1, ii fr), (2, ii (n : Int)), (3, ii stp), (4, .ref h.length), (5, ii (k : Int))]) (S' := [.ref h.length]) dm_X1_gatherRow_14 rfl rfl rfl rfl ?_
        refine me1 (pc' := 18) (L' := [(0, .ref 16), (1, ii fr), (2, ii (n : Int)), (3, ii stp), (4, .ref h.length), (5, ii (k : Int))]) (S' := [ii (k : Int), .ref h.length]) dm_X1_gatherRow_16 rfl rfl rfl rfl ?_
        refine me1 (pc' := 19) (L' := [(0, .ref 16), (1, ii fr), (2, ii (n : Int)), (3, ii stp), (4, .ref h.length), (5, ii (k : Int))]) (S' := [.ref 16, ii (k : Int), .ref h.length]) dm_X1_gatherRow_18 rfl rfl rfl rfl ?_
        refine me1 (pc' := 20) (L' := [(0, .ref 16), (1, ii fr), (2, ii (n : Int)), (3, ii stp), (4, .ref h.length), (5, ii (k : Int))]) (S' := [ii fr, .ref 16, ii (k : Int), .ref h.length]) dm_X1_gatherRow_19 rfl rfl rfl rfl ?_
        refine me1 (pc' := 22) (L' := [(0, .ref 16), (1, ii fr), (2, ii (n : Int)), (3, ii stp), (4, .ref h.length), (5, ii (k : Int))]) (S' := [ii (k : Int), ii fr, .ref 16, ii (k : Int), .ref h.length]) dm_X1_gatherRow_20 rfl rfl rfl rfl ?_
        refine me1 (pc' := 23) (L' := [(0, .ref 16), (1, ii fr), (2, ii (n : Int)), (3, ii stp), (4, .ref h.length), (5, ii (k : Int))]) (S' := [ii stp, ii (k : Int), ii fr, .ref 16, ii (k : Int), .ref h.length]) dm_X1_gatherRow_22 rfl rfl rfl rfl ?_
        refine y_imul (a := (k : Int)) (b := stp) dm_X1_gatherRow_23 (pc' := 24) rfl ?_
        refine y_iadd (a := fr) (b := (k : Int) * stp) dm_X1_gatherRow_24 (pc' := 25) rfl ?_
        obtain ⟨qk, hqk, hvk⟩ := hqq k (by omega)
        obtain ⟨hwk, ⟨hp2k, hpAk⟩, hszk, hlvk, rowk, frk, valsk, hpk, -, -, -, -⟩ := id hvk
        have hixk := hix k (by omega)
        have hbk := hixb k (by omega)
        have htk := hixt k (by omega)
        have hq127k := (hA qk hpAk).2
        have hk7k := hwk.1
        have hk9k := hk9 k (by omega)
        refine pg_st (S' := [ii ((ix k : Nat) : Int), .ref 16, ii (k : Int), .ref h.length]) (congrArg (fun z => ii z :: [.ref 16, ii (k : Int), .ref h.length]) hixk) ?_
        refine x_cp (pc' := 28) (v := .ref qk) (rest := [ii (k : Int), .ref h.length]) dm_X1_gatherRow_25 rfl (g_inv (As := [ii ((ix k : Nat) : Int)]) (S := [ii (k : Int), .ref h.length]) (hl_app h16) rfl rfl rfl (by decide)) rfl rfl rfl (m_stacked (by omega) (hl_app h16) (hl_app h32) (by omega) (by omega) (by omega) hqk) ?_
        refine me3 (pc' := 31) (S' := [.long (cnum (ch k)), ii (k : Int), .ref h.length]) dm_X1_gatherRow_28 (g_get (v := .long (cnum (ch k))) (hl_app hpk) rfl rfl (by omega)) rfl rfl rfl ?_
        refine me3 (pc' := 32) (S' := []) (h1 := h ++ [cJ n (va_up (fl k (fun k : Nat => cnum (ch k)) (fun _ => 0)) k (cnum (ch k)))]) dm_X1_gatherRow_31 (y_hs (yh_last (j := (k : Int)) hl_new (by omega) (by omega) (by omega) (by omega)) (by rw [show (k : Int).toNat = k from rfl]; exact (hl_setl))) rfl rfl rfl ?_
        refine y_iinc (pc' := 35) (L' := [(5, ii ((k : Int) + 1)), (0, .ref 16), (1, ii fr), (2, ii (n : Int)), (3, ii stp), (4, .ref h.length)]) dm_X1_gatherRow_32 (y_incp (a := (k : Int)) (c := 1) rfl rfl (by decide)) rfl ?_
        refine me2 (pc' := 8) (S' := []) dm_X1_gatherRow_35 rfl rfl rfl ?_
        refine pg_cast (h2 := h ++ [cJ n (fl (k + 1) (fun k : Nat => cnum (ch k)) (fun _ => 0))]) (congrArg (fun z => h ++ [cJ n z]) (fl_s k (fun k : Nat => cnum (ch k)) (fun _ => 0))) ?_
        exact pg_sub (L := [(0, .ref 16), (1, ii fr), (2, ii (n : Int)), (3, ii stp), (4, .ref h.length), (5, ii ((k + 1) : Int))]) rfl rfl rfl (ih8 (n - (k + 1)) (by omega) (k + 1) rfl (by omega))
  refine pg_cast (h2 := h ++ [cJ n (fl 0 (fun k : Nat => cnum (ch k)) (fun _ => 0))]) (congrArg (fun z => h ++ [cJ n z]) (fl_0 _ _).symm) ?_
  exact pg_sub (L := [(0, .ref 16), (1, ii fr), (2, ii (n : Int)), (3, ii stp), (4, .ref h.length), (5, ii (0 : Int))]) rfl rfl rfl (lp8 _ 0 rfl (Nat.zero_le _))
set_option maxRecDepth 20000 in
theorem pm_X1_gatherNest : mj_mmof pg_ms 163 = some ((⟨"ArrayCalculator$Machine", "gatherNest", "(III)LArrayCalculator$Value;"⟩, prog_3_method_24_code, 6, (Option.some (Jvm.ClassFile.FieldType.object "ArrayCalculator$Value"))), 1, false, mj_dec prog_3_method_24_code) := rfl
theorem dm_X1_gatherNest_0 : mj_dec prog_3_method_24_code 0 = some (.iload_n 2, 1) := by decide +kernel
theorem dm_X1_gatherNest_1 : mj_dec prog_3_method_24_code 1 = some (.anewarray 25, 3) := by decide +kernel
theorem dm_X1_gatherNest_4 : mj_dec prog_3_method_24_code 4 = some (.astore 4, 2) := by decide +kernel
theorem dm_X1_gatherNest_6 : mj_dec prog_3_method_24_code 6 = some (.iconst 0, 1) := by decide +kernel
theorem dm_X1_gatherNest_7 : mj_dec prog_3_method_24_code 7 = some (.istore 5, 2) := by decide +kernel
theorem dm_X1_gatherNest_9 : mj_dec prog_3_method_24_code 9 = some (.iload 5, 2) := by decide +kernel
theorem dm_X1_gatherNest_11 : mj_dec prog_3_method_24_code 11 = some (.iload_n 2, 1) := by decide +kernel
theorem dm_X1_gatherNest_12 : mj_dec prog_3_method_24_code 12 = some (.if_icmp .ge 24, 3) := by decide +kernel
theorem dm_X1_gatherNest_15 : mj_dec prog_3_method_24_code 15 = some (.aload 4, 2) := by decide +kernel
theorem dm_X1_gatherNest_17 : mj_dec prog_3_method_24_code 17 = some (.iload 5, 2) := by decide +kernel
theorem dm_X1_gatherNest_19 : mj_dec prog_3_method_24_code 19 = some (.aload_n 0, 1) := by decide +kernel
theorem dm_X1_gatherNest_20 : mj_dec prog_3_method_24_code 20 = some (.iload_n 1, 1) := by decide +kernel
theorem dm_X1_gatherNest_21 : mj_dec prog_3_method_24_code 21 = some (.iload 5, 2) := by decide +kernel
theorem dm_X1_gatherNest_23 : mj_dec prog_3_method_24_code 23 = some (.iload_n 3, 1) := by decide +kernel
theorem dm_X1_gatherNest_24 : mj_dec prog_3_method_24_code 24 = some (.imul, 1) := by decide +kernel
theorem dm_X1_gatherNest_25 : mj_dec prog_3_method_24_code 25 = some (.iadd, 1) := by decide +kernel
theorem dm_X1_gatherNest_26 : mj_dec prog_3_method_24_code 26 = some (.invokevirtual 246, 3) := by decide +kernel
theorem dm_X1_gatherNest_29 : mj_dec prog_3_method_24_code 29 = some (.aastore, 1) := by decide +kernel
theorem dm_X1_gatherNest_30 : mj_dec prog_3_method_24_code 30 = some (.iinc 5 1, 3) := by decide +kernel
theorem dm_X1_gatherNest_33 : mj_dec prog_3_method_24_code 33 = some (.goto (-24), 3) := by decide +kernel
theorem dm_X1_gatherNest_36 : mj_dec prog_3_method_24_code 36 = some (.aload 4, 2) := by decide +kernel
theorem dm_X1_gatherNest_38 : mj_dec prog_3_method_24_code 38 = some (.invokestatic 264, 3) := by decide +kernel
theorem dm_X1_gatherNest_41 : mj_dec prog_3_method_24_code 41 = some (.areturn, 1) := by decide +kernel
theorem m_gathV {xt : mj_X} {f1 : Nat → Value} {d e n : Nat} {A : Nat → Prop} {h : mj_H} {sf : Nat → Option Nat} {ix : Nat → Nat} {ch : Nat → VV} {fr stp : Int} {tp dp ca ou wk er pl lv : Int} {nw vx vy dg lf rt : Value} (hx1 : xt 1 = some (.long, 0, f1)) (hd : 4 ≤ d) (hl : 127 ≤ h.length) (hA : okA A h) (h16 : h[16]? = some (mcC tp dp ca ou wk er pl nw vx vy dg lv lf rt)) (h32 : h[32]? = some (cA 4 8192 sf)) (hix : ∀ k, k < n → fr + (k : Int) * stp = ((ix k : Nat) : Int)) (hixb : ∀ k, k < n → ix k < 8192) (hqq : ∀ k, k < n → ∃ q, sf (ix k) = some q ∧ cv A h (e + 1) q (ch k)) (hixt : ∀ k, k < n → ((ix k : Nat) : Int) < tp) (htpb : tp ≤ 8192) (hn24 : n ≤ 24) (he : e + 1 ≤ 20) (hS1 : ∀ k, k < n → vsz (e + 1) (ch k) ≤ 1000) : pgV xt d 163 [.ref 16, ii fr, ii (n : Int), ii stp] h (vres A h (e + 2) (vnest n ch) 2 (n + 9)) := by
  refine x_enter pm_X1_gatherNest (L0 := [(0, .ref 16), (1, ii fr), (2, ii (n : Int)), (3, ii stp)]) rfl (Nat.le_of_ble_eq_true rfl) (by omega) ?_
  refine me1 (pc' := 1) (L' := [(0, .ref 16), (1, ii fr), (2, ii (n : Int)), (3, ii stp)]) (S' := [ii (n : Int)]) dm_X1_gatherNest_0 rfl rfl rfl rfl ?_
  refine me3 (pc' := 4) (S' := [.ref h.length]) (h1 := h ++ [cA 4 n (fun _ => none)]) dm_X1_gatherNest_1 (yh_newA rfl (by omega) (by omega) (by omega) rfl) rfl rfl rfl ?_
  refine me1 (pc' := 6) (L' := [(4, .ref h.length), (0, .ref 16), (1, ii fr), (2, ii (n : Int)), (3, ii stp)]) (S' := []) dm_X1_gatherNest_4 rfl rfl rfl rfl ?_
  refine me0 (pc' := 7) (S' := [ii 0]) dm_X1_gatherNest_6 rfl rfl rfl rfl ?_
  refine me1 (pc' := 9) (L' := [(5, ii 0), (4, .ref h.length), (0, .ref 16), (1, ii fr), (2, ii (n : Int)), (3, ii stp)]) (S' := []) dm_X1_gatherNest_7 rfl rfl rfl rfl ?_
  have lp9 : ∀ (n9 : Nat) (k : Nat) (G : Nat → Option Nat), n - k = n9 → (k ≤ n) → (∀ j, j < k → G j = sf (ix j)) → pgE xt (d - 1) 1 6 false (Option.some (Jvm.ClassFile.FieldType.object "ArrayCalculator$Value")) (mj_dec prog_3_method_24_code) 9 [(0, .ref 16), (1, ii fr), (2, ii (n : Int)), (3, ii stp), (4, .ref h.length), (5, ii (k : Int))] [] (h ++ [cA 4 n G]) (fun r h' => ∃ x, r = some x ∧ vres A h (e + 2) (vnest n ch) 2 (n + 9) x h') := by
    intro n9
    induction n9 using Nat.strongRecOn with
    | ind n9 ih9 =>
      intro k G hm9 hk hG
      refine me1 (pc' := 11) (L' := [(0, .ref 16), (1, ii fr), (2, ii (n : Int)), (3, ii stp), (4, .ref h.length), (5, ii (k : Int))]) (S' := [ii (k : Int)]) dm_X1_gatherNest_9 rfl rfl rfl rfl ?_
      refine me1 (pc' := 12) (L' := [(0, .ref 16), (1, ii fr), (2, ii (n : Int)), (3, ii stp), (4, .ref h.length), (5, ii (k : Int))]) (S' := [ii (n : Int), ii (k : Int)]) dm_X1_gatherNest_11 rfl rfl rfl rfl ?_
      refine y_2ge (a := (k : Int)) (b := (n : Int)) (t := 36) (pc' := 15) dm_X1_gatherNest_12 rfl rfl (by omega) (fun hb1 => ?_) (fun hb1 => ?_)
      · refine me1 (pc' := 38) (L' := [(0, .ref 16), (1, ii fr), (2, ii (n : Int)), (3, ii stp), (4, .ref h.length), (5, ii (k : Int))]) (S' := [.ref h.length]) dm_X1_gatherNest_36 rfl rfl rfl rfl ?_
        have hkn : k = n := by omega
        subst hkn
        have hS : sumN k (fun j => vsz (e + 1) (ch j)) ≤ 29999 := (by have := sumN_bd (n := k) (b := 1000) (f := fun k => vsz (e + 1) (ch k)) hS1; have := Nat.mul_le_mul_right 1000 hn24; omega)
        have hqG : ∀ j, j < k → ∃ q, G j = some q ∧ cv A h (e + 1) q (ch j) := fun j hj => by obtain ⟨q, q1, q2⟩ := hqq j hj; exact ⟨q, (hG j hj).trans q1, q2⟩
        refine x_cv (pc' := 41) (rest := []) dm_X1_gatherNest_38 rfl (g_invs (As := [.ref h.length]) (S := []) rfl rfl rfl) rfl rfl rfl (c_nest (A := A) (e := e + 1) (n := k) (g := G) (ch := ch) (q := h.length + 1) (by omega) (by simp; omega) (by simp) (nA hA (Or.inr (by omega))) hl_new (by omega) (by omega) he hS (fun j hj => by obtain ⟨q, q1, q2⟩ := hqG j hj; exact ⟨q, q1, cv_app q2⟩)) ?_
        rintro _ _ ⟨rfl, rfl⟩
        refine y_ret (r := some (.ref (h.length + 1))) dm_X1_gatherNest_41 rfl rfl rfl ?_
        exact ⟨_, rfl, vres_nest (e := e + 1) (n := k) (ch := ch) (by omega) hn24 he hS hqG (by omega) (by omega)⟩
      · refine me1 (pc' := 17) (L' := [(0, .ref 16), (1, ii fr), (2, ii (n : Int)), (3, ii stp), (4, .ref h.length), (5, ii (k : Int))]) (S' := [.ref h.length]) dm_X1_gatherNest_15 rfl rfl rfl rfl ?_
        refine me1 (pc' := 19) (L' := [(0, .ref 16), (1, ii fr), (2, ii (n : Int)), (3, ii stp), (4, .ref h.length), (5, ii (k : Int))]) (S' := [ii (k : Int), .ref h.length]) dm_X1_gatherNest_17 rfl rfl rfl rfl ?_
        refine me1 (pc' := 20) (L' := [(0, .ref 16), (1, ii fr), (2, ii (n : Int)), (3, ii stp), (4, .ref h.length), (5, ii (k : Int))]) (S' := [.ref 16, ii (k : Int), .ref h.length]) dm_X1_gatherNest_19 rfl rfl rfl rfl ?_
        refine me1 (pc' := 21) (L' := [(0, .ref 16), (1, ii fr), (2, ii (n : Int)), (3, ii stp), (4, .ref h.length), (5, ii (k : Int))]) (S' := [ii fr, .ref 16, ii (k : Int), .ref h.length]) dm_X1_gatherNest_20 rfl rfl rfl rfl ?_
        refine me1 (pc' := 23) (L' := [(0, .ref 16), (1, ii fr), (2, ii (n : Int)), (3, ii stp), (4, .ref h.length), (5, ii (k : Int))]) (S' := [ii (k : Int), ii fr, .ref 16, ii (k : Int), .ref h.length]) dm_X1_gatherNest_21 rfl rfl rfl rfl ?_
        refine me1 (pc' := 24) (L' := [(0, .ref 16), (1, ii fr), (2, ii (n : Int)), (3, ii stp), (4, .ref h.length), (5, ii (k : Int))]) (S' := [ii stp, ii (k : Int), ii fr, .ref 16, ii (k : Int), .ref h.length]) dm_X1_gatherNest_23 rfl rfl rfl rfl ?_
        refine y_imul (a := (k : Int)) (b := stp) dm_X1_gatherNest_24 (pc' := 25) rfl ?_
        refine y_iadd (a := fr) (b := (k : Int) * stp) dm_X1_gatherNest_25 (pc' := 26) rfl ?_
        obtain ⟨qk, hqk, hvk⟩ := hqq k (by omega)
        obtain ⟨hwk, ⟨hp2k, hpAk⟩, hszk, hlvk, rowk, frk, valsk, hpk, -, -, -, -⟩ := id hvk
        have hixk := hix k (by omega)
        have hbk := hixb k (by omega)
        have htk := hixt k (by omega)
        have hq127k := (hA qk hpAk).2
        have hk7k := hwk.1
        refine pg_st (S' := [ii ((ix k : Nat) : Int), .ref 16, ii (k : Int), .ref h.length]) (congrArg (fun z => ii z :: [.ref 16, ii (k : Int), .ref h.length]) hixk) ?_
        refine x_cp (pc' := 29) (v := .ref qk) (rest := [ii (k : Int), .ref h.length]) dm_X1_gatherNest_26 rfl (g_inv (As := [ii ((ix k : Nat) : Int)]) (S := [ii (k : Int), .ref h.length]) (hl_app h16) rfl rfl rfl (by decide)) rfl rfl rfl (m_stacked (by omega) (hl_app h16) (hl_app h32) (by omega) (by omega) (by omega) hqk) ?_
        refine me3 (pc' := 30) (S' := []) (h1 := h ++ [cA 4 n (va_up G k (some qk))]) dm_X1_gatherNest_29 (y_hs (yh_aasr (j := (k : Int)) rfl hl_new (hl_app hpk) (by omega) (by omega) (by omega) (by omega) (by omega)) (by rw [show (k : Int).toNat = k from rfl]; exact (hl_setl))) rfl rfl rfl ?_
        refine y_iinc (pc' := 33) (L' := [(5, ii ((k : Int) + 1)), (0, .ref 16), (1, ii fr), (2, ii (n : Int)), (3, ii stp), (4, .ref h.length)]) dm_X1_gatherNest_30 (y_incp (a := (k : Int)) (c := 1) rfl rfl (by decide)) rfl ?_
        refine me2 (pc' := 9) (S' := []) dm_X1_gatherNest_33 rfl rfl rfl ?_
        exact pg_sub (L := [(0, .ref 16), (1, ii fr), (2, ii (n : Int)), (3, ii stp), (4, .ref h.length), (5, ii ((k + 1) : Int))]) rfl rfl rfl (ih9 (n - (k + 1)) (by omega) (k + 1) (va_up G k (some qk)) rfl (by omega) (fun j hj => by rw [up_at]; by_cases z : j = k; (rw [if_pos z, z, hqk]); (rw [if_neg z]; exact hG j (by omega))))
  exact pg_sub (L := [(0, .ref 16), (1, ii fr), (2, ii (n : Int)), (3, ii stp), (4, .ref h.length), (5, ii (0 : Int))]) rfl rfl rfl (lp9 _ 0 (fun _ => none) rfl (Nat.zero_le _) (fun j hj => absurd hj (Nat.not_lt_zero j)))
