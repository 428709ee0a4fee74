/-! an act of the Machine -/
theorem actH_k {h h' : mj_H} (hk : ∀ y, 17 ≤ y → y ≤ 31 → h'[y]? = h[y]?) (ha : actH h) : actH h' := by
  unfold actH at ha ⊢
  rw [hk 17 (by decide) (by decide), hk 18 (by decide) (by decide), hk 19 (by decide) (by decide), hk 20 (by decide) (by decide), hk 21 (by decide) (by decide), hk 22 (by decide) (by decide), hk 23 (by decide) (by decide), hk 24 (by decide) (by decide), hk 26 (by decide) (by decide), hk 27 (by decide) (by decide), hk 28 (by decide) (by decide), hk 29 (by decide) (by decide), hk 30 (by decide) (by decide), hk 31 (by decide) (by decide)]
  exact ha
theorem actH_st {h : mj_H} {a : Nat} {c : mj_E} (ha : a = 16 ∨ a = 32) (hh : actH h) : actH (h.set a c) := actH_k (fun y h1 h2 => List.getElem?_set_ne (by omega)) hh
theorem okA_st {A : Nat → Prop} {h : mj_H} {a : Nat} {c : mj_E} (hA : okA A h) : okA A (h.set a c) := fun x hx => by rw [List.length_set]; exact hA x hx
theorem nA_st {A : Nat → Prop} {h : mj_H} {a : Nat} (hA : okA A h) (ha : a = 16 ∨ a = 32) : ¬ A a := fun z => by have := hA a z; omega
def aoR (A : Nat → Prop) (h1 h2 : mj_H) (e q : Nat) : Nat ⊕ VV → Prop
  | .inl n => 2 ≤ q ∧ h2[q]? = some (cVal 8 (Int64.ofInt (n : Int)) 1 0 0 0)
  | .inr v => cv (newA A h1 h2) h2 e q v
/-- what an act leaves, in one -/
theorem aact_o {A : Nat → Prop} {h1 h2 : mj_H} {e a b : Nat} {o : Nat ⊕ VV} {x : Value} (hr : aact A h1 e o a b x h2) : ∃ q, x = .ref q ∧ (∀ y, y < h1.length → ¬ scr y → h2[y]? = h1[y]?) ∧ h1.length ≤ h2.length ∧ h2.length ≤ h1.length + a ∧ mj_sl h2 ≤ mj_sl h1 + b ∧ actH h2 ∧ aoR A h1 h2 e q o := by
  obtain ⟨h3, ⟨s1, s2, s3⟩, aH, ar⟩ := hr
  cases o with
  | inl n =>
    obtain ⟨q, X, rfl, rfl, r1, r2, r3, r4⟩ := ar
    refine ⟨q, rfl, fun y hy hs => ?_, ?_, ?_, ?_, actH_app aH, r3, r4⟩
    · rw [List.getElem?_append_left (by omega)]; exact s3 y hs
    · rw [List.length_append]; omega
    · rw [List.length_append]; omega
    · rw [sl_app]; omega
  | inr v =>
    obtain ⟨q, X, rfl, rfl, r1, r2, r3⟩ := ar
    refine ⟨q, rfl, fun y hy hs => ?_, ?_, ?_, ?_, actH_app aH, ?_⟩
    · rw [List.getElem?_append_left (by omega)]; exact s3 y hs
    · rw [List.length_append]; omega
    · rw [List.length_append]; omega
    · rw [sl_app]; omega
    · have e1 : newA A h3 (h3 ++ X) = newA A h1 (h3 ++ X) := by unfold newA; rw [s1]
      show cv (newA A h1 (h3 ++ X)) (h3 ++ X) e q v
      rw [← e1]; exact r3
/-- cells but the acts' own, the Machine's and the stack are as they were -/
def MA (h h' : mj_H) : Prop := (∀ y, y < h.length → ¬ scr y → y ≠ 16 → y ≠ 32 → h'[y]? = h[y]?) ∧ h.length ≤ h'.length ∧ actH h'
/-- WORK, and an error or a value: D the depth at which sizes are told -/
def mOut (D : Nat) (W cost : Int) (o : Nat ⊕ VV) : Int × (Int ⊕ VV) := if W < cost then (W, .inl 10) else match o with
  | .inl n => (W - cost, .inl (n : Int))
  | .inr v => if 1000 < vsz D v ∨ 5 < vlv D v then (W - cost, .inl 8) else if W - cost < (vsz D v : Int) then (W - cost, .inl 10) else (W - cost - (vsz D v : Int), .inr v)
def mAct (A : Nat → Prop) (h : mj_H) (D t : Nat) (sf : Nat → Option Nat) (dp ca ou pl pp : Int) (nw vx vy : Value) (lv : Int) (lf rt : Value) (r : Int × (Int ⊕ VV)) (a b : Nat) (h' : mj_H) : Prop := MA h h' ∧ h'.length ≤ h.length + a ∧ mj_sl h' ≤ mj_sl h + b ∧ (match r.2 with
  | .inl c => h'[16]? = some (mcC (t : Int) dp ca ou r.1 c (if 0 < ca then ou else pp) nw vx vy .null lv lf rt) ∧ h'[32]? = some (cA 4 8192 sf)
  | .inr v => ∃ q : Nat, h'[16]? = some (mcC ((t + 1 : Nat) : Int) dp ca ou r.1 0 pl nw vx vy .null lv lf rt) ∧ h'[32]? = some (cA 4 8192 (va_up sf t (some q))) ∧ cv (newA A h h') h' D q v)
section mActs
variable {A : Nat → Prop} {h h1 h2 : mj_H} {D t a b : Nat} {sf : Nat → Option Nat} {dp ca ou pl pp lv W W0 : Int} {nw vx vy lf rt : Value} {c : mj_E}
theorem mAct_e {x : Int} (hl : 127 ≤ h.length) (h16 : h[16]? = some c) (hs : ∀ W' e' p', mj_sl1 (mcC (t : Int) dp ca ou W' e' p' nw vx vy .null lv lf rt) = mj_sl1 c) (h1e : h1 = h.set 16 (mcC (t : Int) dp ca ou W0 0 pl nw vx vy .null lv lf rt)) (hk : ∀ y, y < h1.length → ¬ scr y → h2[y]? = h1[y]?) (hl1 : h1.length ≤ h2.length) (hl2 : h2.length ≤ h1.length + a) (hs2 : mj_sl h2 ≤ mj_sl h1 + b) (hH : actH h2) (h32 : h[32]? = some (cA 4 8192 sf)) : mAct A h D t sf dp ca ou pl pp nw vx vy lv lf rt (W, .inl x) a b (h2.set 16 (mcC (t : Int) dp ca ou W x (if 0 < ca then ou else pp) nw vx vy .null lv lf rt)) := by
  have hlen : h1.length = h.length := by rw [h1e, List.length_set]
  have h216 : h2[16]? = some (mcC (t : Int) dp ca ou W0 0 pl nw vx vy .null lv lf rt) := by
    rw [hk 16 (by omega) (by unfold scr; omega), h1e, List.getElem?_set_self (by omega)]
  refine ⟨⟨fun y y1 y2 y3 y4 => ?_, by rw [List.length_set]; omega, actH_st (Or.inl rfl) hH⟩, by rw [List.length_set]; omega, ?_, ?_, ?_⟩
  · rw [List.getElem?_set_ne (Ne.symm y3), hk y (by omega) y2, h1e, List.getElem?_set_ne (Ne.symm y3)]
  · rw [sl_set (e' := mcC (t : Int) dp ca ou W x (if 0 < ca then ou else pp) nw vx vy .null lv lf rt) h216 rfl]
    rw [h1e, sl_set (e' := mcC (t : Int) dp ca ou W0 0 pl nw vx vy .null lv lf rt) h16 (hs W0 0 pl)] at hs2
    exact hs2
  · exact List.getElem?_set_self (by omega)
  · rw [List.getElem?_set_ne (by decide), hk 32 (by omega) (by unfold scr; omega), h1e, List.getElem?_set_ne (by decide)]
    exact h32
theorem mAct_v {v : VV} {q : Nat} (hl : 127 ≤ h.length) (hA : okA A h) (h16 : h[16]? = some c) (hs : ∀ W' e' p', mj_sl1 (mcC (t : Int) dp ca ou W' e' p' nw vx vy .null lv lf rt) = mj_sl1 c) (h1e : h1 = h.set 16 (mcC (t : Int) dp ca ou W0 0 pl nw vx vy .null lv lf rt)) (hk : ∀ y, y < h1.length → ¬ scr y → h2[y]? = h1[y]?) (hl1 : h1.length ≤ h2.length) (hl2 : h2.length ≤ h1.length + a) (hs2 : mj_sl h2 ≤ mj_sl h1 + b) (hH : actH h2) (h32 : h[32]? = some (cA 4 8192 sf)) (hv : cv (newA A h1 h2) h2 D q v) : mAct A h D t sf dp ca ou pl pp nw vx vy lv lf rt (W, .inr v) a b ((h2.set 32 (cA 4 8192 (va_up sf t (some q)))).set 16 (mcC ((t + 1 : Nat) : Int) dp ca ou W 0 pl nw vx vy .null lv lf rt)) := by
  have hlen : h1.length = h.length := by rw [h1e, List.length_set]
  have h216 : h2[16]? = some (mcC (t : Int) dp ca ou W0 0 pl nw vx vy .null lv lf rt) := by
    rw [hk 16 (by omega) (by unfold scr; omega), h1e, List.getElem?_set_self (by omega)]
  have h232 : h2[32]? = some (cA 4 8192 sf) := by
    rw [hk 32 (by omega) (by unfold scr; omega), h1e, List.getElem?_set_ne (by decide)]
    exact h32
  have nA : ∀ y, y = 16 ∨ y = 32 → ¬ newA A h1 h2 y := fun y hy z => by
    rcases z with z | z
    · have := hA y z; omega
    · omega
  refine ⟨⟨fun y y1 y2 y3 y4 => ?_, by rw [List.length_set, List.length_set]; omega, actH_st (Or.inl rfl) (actH_st (Or.inr rfl) hH)⟩, by rw [List.length_set, List.length_set]; omega, ?_, q, ?_, ?_, ?_⟩
  · rw [List.getElem?_set_ne (Ne.symm y3), List.getElem?_set_ne (Ne.symm y4), hk y (by omega) y2, h1e, List.getElem?_set_ne (Ne.symm y3)]
  · have h316 : (h2.set 32 (cA 4 8192 (va_up sf t (some q))))[16]? = some (mcC (t : Int) dp ca ou W0 0 pl nw vx vy .null lv lf rt) := by rw [List.getElem?_set_ne (by decide)]; exact h216
    rw [sl_set (e' := mcC ((t + 1 : Nat) : Int) dp ca ou W 0 pl nw vx vy .null lv lf rt) h316 rfl, sl_set (e' := cA 4 8192 (va_up sf t (some q))) h232 rfl]
    rw [h1e, sl_set (e' := mcC (t : Int) dp ca ou W0 0 pl nw vx vy .null lv lf rt) h16 (hs W0 0 pl)] at hs2
    exact hs2
  · exact List.getElem?_set_self (by rw [List.length_set]; omega)
  · rw [List.getElem?_set_ne (by decide)]; exact List.getElem?_set_self (by omega)
  · have e1 : newA A h ((h2.set 32 (cA 4 8192 (va_up sf t (some q)))).set 16 (mcC ((t + 1 : Nat) : Int) dp ca ou W 0 pl nw vx vy .null lv lf rt)) = newA A h1 h2 := by unfold newA; rw [List.length_set, List.length_set, hlen]
    rw [e1]
    exact cv_set (nA 16 (Or.inl rfl)) (cv_set (nA 32 (Or.inr rfl)) hv)
/-- the WORK doesn't suffice -/
theorem mAct_w {x : Int} (hl : 127 ≤ h.length) (h16 : h[16]? = some c) (hs : ∀ W' e' p', mj_sl1 (mcC (t : Int) dp ca ou W' e' p' nw vx vy .null lv lf rt) = mj_sl1 c) (hH : actH h) (h32 : h[32]? = some (cA 4 8192 sf)) : mAct A h D t sf dp ca ou pl pp nw vx vy lv lf rt (W, .inl x) a b (h.set 16 (mcC (t : Int) dp ca ou W x (if 0 < ca then ou else pp) nw vx vy .null lv lf rt)) := by
  refine ⟨⟨fun y y1 y2 y3 y4 => List.getElem?_set_ne (Ne.symm y3), by rw [List.length_set]; exact Nat.le_refl _, actH_st (Or.inl rfl) hH⟩, by rw [List.length_set]; omega, by rw [sl_set (e' := mcC (t : Int) dp ca ou W x (if 0 < ca then ou else pp) nw vx vy .null lv lf rt) h16 (hs _ _ _)]; omega, List.getElem?_set_self (by omega), ?_⟩
  rw [List.getElem?_set_ne (by decide)]; exact h32
end mActs
theorem mOut_w {D : Nat} {W cost : Int} {o : Nat ⊕ VV} (h : W < cost) : mOut D W cost o = (W, .inl 10) := if_pos h
theorem mOut_f {D n : Nat} {W cost : Int} (h : ¬ W < cost) : mOut D W cost (.inl n) = (W - cost, .inl (n : Int)) := if_neg h
theorem mOut_b {D : Nat} {W cost : Int} {v : VV} (h : ¬ W < cost) (h2 : 1000 < vsz D v ∨ 5 < vlv D v) : mOut D W cost (.inr v) = (W - cost, .inl 8) := (if_neg h).trans (if_pos h2)
theorem mOut_2 {D : Nat} {W cost : Int} {v : VV} (h : ¬ W < cost) (h2 : ¬ (1000 < vsz D v ∨ 5 < vlv D v)) (h3 : W - cost < (vsz D v : Int)) : mOut D W cost (.inr v) = (W - cost, .inl 10) := (if_neg h).trans ((if_neg h2).trans (if_pos h3))
theorem mOut_v {D : Nat} {W cost : Int} {v : VV} (h : ¬ W < cost) (h2 : ¬ (1000 < vsz D v ∨ 5 < vlv D v)) (h3 : ¬ W - cost < (vsz D v : Int)) : mOut D W cost (.inr v) = (W - cost - (vsz D v : Int), .inr v) := (if_neg h).trans ((if_neg h2).trans (if_neg h3))
/-- nothing is made where the WORK doesn't suffice -/
def mA0 (W cost : Int) (a : Nat) : Nat := if W < cost then 0 else a
theorem mA0_w {W cost : Int} {a : Nat} (h : W < cost) : mA0 W cost a = 0 := if_pos h
theorem mA0_n {W cost : Int} {a : Nat} (h : ¬ W < cost) : mA0 W cost a = a := if_neg h
set_option maxRecDepth 20000 in
theorem pm_X1_act : mj_mmof pg_ms 81 = some ((⟨"ArrayCalculator$Machine", "act", "(LArrayCalculator$Op;)V"⟩, prog_3_method_16_code, 3, (Option.none : Option Jvm.ClassFile.FieldType)), 1, false, mj_dec prog_3_method_16_code) := rfl
theorem dm_X1_act_0 : mj_dec prog_3_method_16_code 0 = some (.aload_n 0, 1) := by decide +kernel
theorem dm_X1_act_1 : mj_dec prog_3_method_16_code 1 = some (.aconst_null, 1) := by decide +kernel
theorem dm_X1_act_2 : mj_dec prog_3_method_16_code 2 = some (.putfield 69, 3) := by decide +kernel
theorem dm_X1_act_5 : mj_dec prog_3_method_16_code 5 = some (.aload_n 0, 1) := by decide +kernel
theorem dm_X1_act_6 : mj_dec prog_3_method_16_code 6 = some (.getfield 83, 3) := by decide +kernel
theorem dm_X1_act_9 : mj_dec prog_3_method_16_code 9 = some (.getfield 189, 3) := by decide +kernel
theorem dm_X1_act_12 : mj_dec prog_3_method_16_code 12 = some (.aload_n 0, 1) := by decide +kernel
theorem dm_X1_act_13 : mj_dec prog_3_method_16_code 13 = some (.getfield 80, 3) := by decide +kernel
theorem dm_X1_act_16 : mj_dec prog_3_method_16_code 16 = some (.ifnonnull 7, 3) := by decide +kernel
theorem dm_X1_act_23 : mj_dec prog_3_method_16_code 23 = some (.aload_n 0, 1) := by decide +kernel
theorem dm_X1_act_24 : mj_dec prog_3_method_16_code 24 = some (.getfield 80, 3) := by decide +kernel
theorem dm_X1_act_27 : mj_dec prog_3_method_16_code 27 = some (.getfield 189, 3) := by decide +kernel
theorem dm_X1_act_30 : mj_dec prog_3_method_16_code 30 = some (.iadd, 1) := by decide +kernel
theorem dm_X1_act_31 : mj_dec prog_3_method_16_code 31 = some (.istore_n 2, 1) := by decide +kernel
theorem dm_X1_act_32 : mj_dec prog_3_method_16_code 32 = some (.aload_n 0, 1) := by decide +kernel
theorem dm_X1_act_33 : mj_dec prog_3_method_16_code 33 = some (.iconst 3, 1) := by decide +kernel
theorem dm_X1_act_34 : mj_dec prog_3_method_16_code 34 = some (.iload_n 2, 1) := by decide +kernel
theorem dm_X1_act_35 : mj_dec prog_3_method_16_code 35 = some (.iadd, 1) := by decide +kernel
theorem dm_X1_act_36 : mj_dec prog_3_method_16_code 36 = some (.aload_n 1, 1) := by decide +kernel
theorem dm_X1_act_37 : mj_dec prog_3_method_16_code 37 = some (.invokevirtual 192, 3) := by decide +kernel
theorem dm_X1_act_40 : mj_dec prog_3_method_16_code 40 = some (.ifCond .eq 52, 3) := by decide +kernel
theorem dm_X1_act_43 : mj_dec prog_3_method_16_code 43 = some (.aload_n 0, 1) := by decide +kernel
theorem dm_X1_act_44 : mj_dec prog_3_method_16_code 44 = some (.aload_n 0, 1) := by decide +kernel
theorem dm_X1_act_45 : mj_dec prog_3_method_16_code 45 = some (.getfield 80, 3) := by decide +kernel
theorem dm_X1_act_48 : mj_dec prog_3_method_16_code 48 = some (.ifnonnull 21, 3) := by decide +kernel
theorem dm_X1_act_69 : mj_dec prog_3_method_16_code 69 = some (.aload_n 0, 1) := by decide +kernel
theorem dm_X1_act_70 : mj_dec prog_3_method_16_code 70 = some (.getfield 21, 3) := by decide +kernel
theorem dm_X1_act_73 : mj_dec prog_3_method_16_code 73 = some (.aload_n 1, 1) := by decide +kernel
theorem dm_X1_act_74 : mj_dec prog_3_method_16_code 74 = some (.getfield 90, 3) := by decide +kernel
theorem dm_X1_act_77 : mj_dec prog_3_method_16_code 77 = some (.aload_n 0, 1) := by decide +kernel
theorem dm_X1_act_78 : mj_dec prog_3_method_16_code 78 = some (.getfield 80, 3) := by decide +kernel
theorem dm_X1_act_81 : mj_dec prog_3_method_16_code 81 = some (.aload_n 0, 1) := by decide +kernel
theorem dm_X1_act_82 : mj_dec prog_3_method_16_code 82 = some (.getfield 83, 3) := by decide +kernel
theorem dm_X1_act_85 : mj_dec prog_3_method_16_code 85 = some (.invokevirtual 208, 3) := by decide +kernel
theorem dm_X1_act_88 : mj_dec prog_3_method_16_code 88 = some (.aload_n 1, 1) := by decide +kernel
theorem dm_X1_act_89 : mj_dec prog_3_method_16_code 89 = some (.invokevirtual 200, 3) := by decide +kernel
theorem dm_X1_act_92 : mj_dec prog_3_method_16_code 92 = some (.return_, 1) := by decide +kernel
theorem m_actT {xt : mj_X} {f1 : Nat → Value} {d t e qw ql : Nat} {A : Nat → Prop} {h : mj_H} {v w : VV} {sf : Nat → Option Nat} {dp ca ou wk pl lv : Int} {nw vx vy dg : Value} (hx1 : xt 1 = some (.long, 0, f1)) (hd : 8 * e + 33 ≤ d) (hl : 127 ≤ h.length) (hA : okA A h) (hH0 : actH h) (h16 : h[16]? = some (mcC (t : Int) dp ca ou wk 0 pl nw vx vy dg lv (.ref ql) (.ref qw))) (h32 : h[32]? = some (cA 4 8192 sf)) (ht : t < 8192) {p : Nat} {od pp ov oa om ot : Int} {onm : Int64} {ovl onx oot : Value} (hp : h[p]? = some (opC od pp ov onm oa om ot ovl onx oot)) (hp2 : 127 ≤ p) (hca : -2147483648 ≤ ca ∧ ca ≤ 2147483647) (hw : cv A h (e + 1) qw w) (hset2 : vsz (e + 1) w ≤ 1000) (he : e ≤ 18) (hov : -2147483648 ≤ ov ∧ ov ≤ 2147483647) (hwk : 0 ≤ wk ∧ wk ≤ 1000000) (hv : cv A h (e + 1) ql v) (hset : vsz (e + 1) v ≤ 1000) (hcl : cloneOK xt) : pgN xt d 81 [.ref 16, .ref p] h (fun h' => mAct A h (e + 2) t sf dp ca ou pl pp nw vx vy lv (.ref ql) (.ref qw) (mOut (e + 2) wk (3 + ((vsz (e + 1) w : Int) + (vsz (e + 1) v : Int))) (s_two ov e v w)) (mA0 wk (3 + ((vsz (e + 1) w : Int) + (vsz (e + 1) v : Int))) (twoA ov e v w)) (mA0 wk (3 + ((vsz (e + 1) w : Int) + (vsz (e + 1) v : Int))) (twoB ov e v w)) h') := by
  have h17 := hH0.1
  obtain ⟨f26, h26⟩ := hH0.2.2.2.2.2.2.2.2.1
  have hz9 := hw
  obtain ⟨hw2, ⟨hq2, hqA2⟩, hsz2, hlv2, row2, fr2, vals2, hwq, -, -, -, -⟩ := id hw
  obtain ⟨hw1, ⟨hq1, hqA1⟩, hsz1, hlv1, row1, fr1, vals1, hvq, -, -, -, -⟩ := id hv
  have hqw : qw = 25 ∨ qw = 101 ∨ 127 ≤ qw := (hA qw hqA2).2
  have hql : ql = 25 ∨ ql = 101 ∨ 127 ≤ ql := (hA ql hqA1).2
  refine x_enter pm_X1_act (L0 := [(0, .ref 16), (1, .ref p)]) rfl (Nat.le_of_ble_eq_true rfl) (by omega) ?_
  refine me1 (pc' := 1) (L' := [(0, .ref 16), (1, .ref p)]) (S' := [.ref 16]) dm_X1_act_0 rfl rfl rfl rfl ?_
  refine me0 (pc' := 2) (S' := [.null, .ref 16]) dm_X1_act_1 rfl rfl rfl rfl ?_
  refine me3 (pc' := 5) (S' := []) (h1 := (h).set 16 (cO 1 [.ref 4, .ref 17, .ref 26, .ref 32, ii (t : Int), .ref 33, ii dp, ii ca, ii ou, ii wk, ii 0, ii pl, nw, vx, vy, .null, ii lv, .ref ql, .ref qw])) dm_X1_act_2 (g_put (fs' := [.ref 4, .ref 17, .ref 26, .ref 32, ii (t : Int), .ref 33, ii dp, ii ca, ii ou, ii wk, ii 0, ii pl, nw, vx, vy, .null, ii lv, .ref ql, .ref qw]) h16 rfl rfl rfl (by simp) rfl (by decide) (fun z => by cases z) (by decide)) rfl rfl rfl ?_
  refine me1 (pc' := 6) (L' := [(0, .ref 16), (1, .ref p)]) (S' := [.ref 16]) dm_X1_act_5 rfl rfl rfl rfl ?_
  refine me3 (pc' := 9) (S' := [.ref qw]) dm_X1_act_6 (g_get (v := .ref qw) (hl_set (hl_lt h16)) rfl rfl (by decide)) rfl rfl rfl ?_
  refine me3 (pc' := 12) (S' := [ii (vsz (e + 1) w : Int)]) dm_X1_act_9 (g_get (v := ii (vsz (e + 1) w : Int)) (hl_ne (by omega) hwq) rfl rfl (by omega)) rfl rfl rfl ?_
  refine me1 (pc' := 13) (L' := [(0, .ref 16), (1, .ref p)]) (S' := [.ref 16, ii (vsz (e + 1) w : Int)]) dm_X1_act_12 rfl rfl rfl rfl ?_
  refine me3 (pc' := 16) (S' := [.ref ql, ii (vsz (e + 1) w : Int)]) dm_X1_act_13 (g_get (v := .ref ql) (hl_set (hl_lt h16)) rfl rfl (by decide)) rfl rfl rfl ?_
  refine me2 (pc' := 23) (S' := [ii (vsz (e + 1) w : Int)]) dm_X1_act_16 rfl rfl rfl ?_
  refine me1 (pc' := 24) (L' := [(0, .ref 16), (1, .ref p)]) (S' := [.ref 16, ii (vsz (e + 1) w : Int)]) dm_X1_act_23 rfl rfl rfl rfl ?_
  refine me3 (pc' := 27) (S' := [.ref ql, ii (vsz (e + 1) w : Int)]) dm_X1_act_24 (g_get (v := .ref ql) (hl_set (hl_lt h16)) rfl rfl (by decide)) rfl rfl rfl ?_
  refine me3 (pc' := 30) (S' := [ii (vsz (e + 1) v : Int), ii (vsz (e + 1) w : Int)]) dm_X1_act_27 (g_get (v := ii (vsz (e + 1) v : Int)) (hl_ne (by omega) hvq) rfl rfl (by omega)) rfl rfl rfl ?_
  refine y_iadd (a := (vsz (e + 1) w : Int)) (b := (vsz (e + 1) v : Int)) dm_X1_act_30 (pc' := 31) rfl ?_
  refine me1 (pc' := 32) (L' := [(2, ii ((vsz (e + 1) w : Int) + (vsz (e + 1) v : Int))), (0, .ref 16), (1, .ref p)]) (S' := []) dm_X1_act_31 rfl rfl rfl rfl ?_
  refine me1 (pc' := 33) (L' := [(2, ii ((vsz (e + 1) w : Int) + (vsz (e + 1) v : Int))), (0, .ref 16), (1, .ref p)]) (S' := [.ref 16]) dm_X1_act_32 rfl rfl rfl rfl ?_
  refine me0 (pc' := 34) (S' := [ii 3, .ref 16]) dm_X1_act_33 rfl rfl rfl rfl ?_
  refine me1 (pc' := 35) (L' := [(2, ii ((vsz (e + 1) w : Int) + (vsz (e + 1) v : Int))), (0, .ref 16), (1, .ref p)]) (S' := [ii ((vsz (e + 1) w : Int) + (vsz (e + 1) v : Int)), ii 3, .ref 16]) dm_X1_act_34 rfl rfl rfl rfl ?_
  refine y_iadd (a := 3) (b := (vsz (e + 1) w : Int) + (vsz (e + 1) v : Int)) dm_X1_act_35 (pc' := 36) rfl ?_
  by_cases hW : wk < 3 + ((vsz (e + 1) w : Int) + (vsz (e + 1) v : Int))
  · refine me1 (pc' := 37) (L' := [(2, ii ((vsz (e + 1) w : Int) + (vsz (e + 1) v : Int))), (0, .ref 16), (1, .ref p)]) (S' := [.ref p, ii (3 + ((vsz (e + 1) w : Int) + (vsz (e + 1) v : Int))), .ref 16]) dm_X1_act_36 rfl rfl rfl rfl ?_
    refine x_cv (pc' := 40) (rest := []) dm_X1_act_37 rfl (g_inv (As := [ii (3 + ((vsz (e + 1) w : Int) + (vsz (e + 1) v : Int))), .ref p]) (S := []) (hl_set (hl_lt h16)) rfl rfl rfl (by decide)) rfl rfl rfl (m_takeF (n := 3 + ((vsz (e + 1) w : Int) + (vsz (e + 1) v : Int))) (by omega) (hl_set (hl_lt h16)) (hl_ne (by omega) hp) hp2 hca (by omega) hwk hW (by rw [List.set_set])) ?_
    rintro _ _ ⟨rfl, rfl⟩
    refine me_1t (pc' := 92) dm_X1_act_40 rfl (by decide) ?_
    refine y_ret (r := none) dm_X1_act_92 rfl rfl rfl ?_
    refine ⟨rfl, ?_⟩
    rw [mOut_w hW, mA0_w hW, mA0_w hW]
    exact mAct_w hl h16 (fun _ _ _ => rfl) hH0 h32
  · refine me1 (pc' := 37) (L' := [(2, ii ((vsz (e + 1) w : Int) + (vsz (e + 1) v : Int))), (0, .ref 16), (1, .ref p)]) (S' := [.ref p, ii (3 + ((vsz (e + 1) w : Int) + (vsz (e + 1) v : Int))), .ref 16]) dm_X1_act_36 rfl rfl rfl rfl ?_
    refine x_cv (pc' := 40) (rest := []) dm_X1_act_37 rfl (g_inv (As := [ii (3 + ((vsz (e + 1) w : Int) + (vsz (e + 1) v : Int))), .ref p]) (S := []) (hl_set (hl_lt h16)) rfl rfl rfl (by decide)) rfl rfl rfl (m_takeT (n := 3 + ((vsz (e + 1) w : Int) + (vsz (e + 1) v : Int))) (by omega) (hl_set (hl_lt h16)) (hl_ne (by omega) hp) hp2 hca (by omega) hwk (by omega) (by rw [List.set_set])) ?_
    rintro _ _ ⟨rfl, rfl⟩
    refine me_1f (pc' := 43) dm_X1_act_40 rfl (by decide) rfl ?_
    refine me1 (pc' := 44) (L' := [(2, ii ((vsz (e + 1) w : Int) + (vsz (e + 1) v : Int))), (0, .ref 16), (1, .ref p)]) (S' := [.ref 16]) dm_X1_act_43 rfl rfl rfl rfl ?_
    refine me1 (pc' := 45) (L' := [(2, ii ((vsz (e + 1) w : Int) + (vsz (e + 1) v : Int))), (0, .ref 16), (1, .ref p)]) (S' := [.ref 16, .ref 16]) dm_X1_act_44 rfl rfl rfl rfl ?_
    refine me3 (pc' := 48) (S' := [.ref ql, .ref 16]) dm_X1_act_45 (g_get (v := .ref ql) (hl_set (hl_lt h16)) rfl rfl (by decide)) rfl rfl rfl ?_
    refine me2 (pc' := 69) (S' := [.ref 16]) dm_X1_act_48 rfl rfl rfl ?_
    refine me1 (pc' := 70) (L' := [(2, ii ((vsz (e + 1) w : Int) + (vsz (e + 1) v : Int))), (0, .ref 16), (1, .ref p)]) (S' := [.ref 16, .ref 16]) dm_X1_act_69 rfl rfl rfl rfl ?_
    refine me3 (pc' := 73) (S' := [.ref 26, .ref 16]) dm_X1_act_70 (g_get (v := .ref 26) (hl_set (hl_lt h16)) rfl rfl (by decide)) rfl rfl rfl ?_
    refine me1 (pc' := 74) (L' := [(2, ii ((vsz (e + 1) w : Int) + (vsz (e + 1) v : Int))), (0, .ref 16), (1, .ref p)]) (S' := [.ref p, .ref 26, .ref 16]) dm_X1_act_73 rfl rfl rfl rfl ?_
    refine me3 (pc' := 77) (S' := [ii ov, .ref 26, .ref 16]) dm_X1_act_74 (g_get (v := ii ov) (hl_ne (by omega) hp) rfl rfl (by omega)) rfl rfl rfl ?_
    refine me1 (pc' := 78) (L' := [(2, ii ((vsz (e + 1) w : Int) + (vsz (e + 1) v : Int))), (0, .ref 16), (1, .ref p)]) (S' := [.ref 16, ii ov, .ref 26, .ref 16]) dm_X1_act_77 rfl rfl rfl rfl ?_
    refine me3 (pc' := 81) (S' := [.ref ql, ii ov, .ref 26, .ref 16]) dm_X1_act_78 (g_get (v := .ref ql) (hl_set (hl_lt h16)) rfl rfl (by decide)) rfl rfl rfl ?_
    refine me1 (pc' := 82) (L' := [(2, ii ((vsz (e + 1) w : Int) + (vsz (e + 1) v : Int))), (0, .ref 16), (1, .ref p)]) (S' := [.ref 16, .ref ql, ii ov, .ref 26, .ref 16]) dm_X1_act_81 rfl rfl rfl rfl ?_
    refine me3 (pc' := 85) (S' := [.ref qw, .ref ql, ii ov, .ref 26, .ref 16]) dm_X1_act_82 (g_get (v := .ref qw) (hl_set (hl_lt h16)) rfl rfl (by decide)) rfl rfl rfl ?_
    obtain ⟨g1, g1e⟩ : ∃ g1, g1 = (h).set 16 (cO 1 [.ref 4, .ref 17, .ref 26, .ref 32, ii (t : Int), .ref 33, ii dp, ii ca, ii ou, ii (wk - (3 + ((vsz (e + 1) w : Int) + (vsz (e + 1) v : Int)))), ii 0, ii pl, nw, vx, vy, .null, ii lv, .ref ql, .ref qw]) := ⟨_, rfl⟩
    refine x_cv (pc' := 88) (rest := [.ref 16]) dm_X1_act_85 rfl (g_inv (As := [ii ov, .ref ql, .ref qw]) (S := [.ref 16]) (hl_ne (by decide) h26) rfl rfl rfl (by decide)) rfl rfl rfl ((show pgV xt (d - 1) _ _ _ (aact A ((h).set 16 (cO 1 [.ref 4, .ref 17, .ref 26, .ref 32, ii (t : Int), .ref 33, ii dp, ii ca, ii ou, ii (wk - (3 + ((vsz (e + 1) w : Int) + (vsz (e + 1) v : Int)))), ii 0, ii pl, nw, vx, vy, .null, ii lv, .ref ql, .ref qw])) (e + 2) (s_two ov e v w) (twoA ov e v w) (twoB ov e v w)) from t_of hx1 (by omega) (by rw [List.length_set]; exact hl) (okA_st hA) (actH_st (Or.inl rfl) hH0) (cv_set (nA_st hA (Or.inl rfl)) hv) (cv_set (nA_st hA (Or.inl rfl)) hz9) he hset hset2 hcl hov)) ?_
    rintro x9 g2 hres
    rw [← g1e] at hres
    obtain ⟨qz, rfl, gk, gl1, gl2, gs2, gH, gO⟩ := aact_o hres
    have g1l : g1.length = h.length := by rw [g1e, List.length_set]
    have g216 : g2[16]? = some (cO 1 [.ref 4, .ref 17, .ref 26, .ref 32, ii (t : Int), .ref 33, ii dp, ii ca, ii ou, ii (wk - (3 + ((vsz (e + 1) w : Int) + (vsz (e + 1) v : Int)))), ii 0, ii pl, nw, vx, vy, .null, ii lv, .ref ql, .ref qw]) := by rw [gk 16 (by omega) (by unfold scr; omega), g1e, List.getElem?_set_self (by omega)]
    have g232 : g2[32]? = some (cA 4 8192 sf) := by rw [gk 32 (by omega) (by unfold scr; omega), g1e, List.getElem?_set_ne (by decide)]; exact h32
    have g2p : g2[p]? = some (cO 4 [ii od, ii pp, ii ov, .long onm, ii oa, ii om, ii ot, ovl, onx, oot]) := by rw [gk p (by have := hl_lt hp; omega) (by unfold scr; omega), g1e, List.getElem?_set_ne (by omega)]; exact hp
    refine me1 (pc' := 89) (L' := [(2, ii ((vsz (e + 1) w : Int) + (vsz (e + 1) v : Int))), (0, .ref 16), (1, .ref p)]) (S' := [.ref p, .ref qz, .ref 16]) dm_X1_act_88 rfl rfl rfl rfl ?_
    rcases ho : (s_two ov e v w) with n9 | v9
    · rw [ho] at gO
      have gO : 2 ≤ qz ∧ g2[qz]? = some (cVal 8 (Int64.ofInt (n9 : Int)) 1 0 0 0) := gO
      refine x_cn (pc' := 92) (rest := []) dm_X1_act_89 rfl (g_inv (As := [.ref qz, .ref p]) (S := []) g216 rfl rfl rfl (by decide)) rfl rfl rfl (m_finF (t := t) (by omega) g216 g232 ht g2p hp2 hca gO.2 gO.1 rfl) ?_
      rintro _ rfl
      refine y_ret (r := none) dm_X1_act_92 rfl rfl rfl ?_
      refine ⟨rfl, ?_⟩
      rw [mOut_f hW]
      rw [mA0_n hW, mA0_n hW]
      exact mAct_e hl h16 (fun _ _ _ => rfl) g1e gk gl1 gl2 gs2 gH h32
    · rw [ho] at gO
      have gO : cv (newA A g1 g2) g2 (e + 2) qz v9 := gO
      have gA : okA (newA A g1 g2) g2 := fun y hy => by rcases hy with z | z; (have := hA y z; exact ⟨by omega, this.2⟩); (exact ⟨z.2, by omega⟩)
      by_cases hbig : 1000 < vsz (e + 1 + 1) v9 ∨ 5 < vlv (e + 1 + 1) v9
      · refine x_cn (pc' := 92) (rest := []) dm_X1_act_89 rfl (g_inv (As := [.ref qz, .ref p]) (S := []) g216 rfl rfl rfl (by decide)) rfl rfl rfl (m_finB (e := e + 1) (t := t) (by omega) g216 g232 ht g2p hp2 hca gA gO hbig rfl) ?_
        rintro _ rfl
        refine y_ret (r := none) dm_X1_act_92 rfl rfl rfl ?_
        refine ⟨rfl, ?_⟩
        rw [mOut_b hW hbig]
        rw [mA0_n hW, mA0_n hW]
        exact mAct_e hl h16 (fun _ _ _ => rfl) g1e gk gl1 gl2 gs2 gH h32
      · by_cases hw9 : wk - (3 + ((vsz (e + 1) w : Int) + (vsz (e + 1) v : Int))) < (vsz (e + 1 + 1) v9 : Int)
        · refine x_cn (pc' := 92) (rest := []) dm_X1_act_89 rfl (g_inv (As := [.ref qz, .ref p]) (S := []) g216 rfl rfl rfl (by decide)) rfl rfl rfl (m_finW (e := e + 1) (t := t) (by omega) g216 g232 ht g2p hp2 hca gA gO (by omega) (by omega) hw9 rfl) ?_
          rintro _ rfl
          refine y_ret (r := none) dm_X1_act_92 rfl rfl rfl ?_
          refine ⟨rfl, ?_⟩
          rw [mOut_2 hW hbig hw9]
          rw [mA0_n hW, mA0_n hW]
          exact mAct_e hl h16 (fun _ _ _ => rfl) g1e gk gl1 gl2 gs2 gH h32
        · refine x_cn (pc' := 92) (rest := []) dm_X1_act_89 rfl (g_inv (As := [.ref qz, .ref p]) (S := []) g216 rfl rfl rfl (by decide)) rfl rfl rfl (m_finK (e := e + 1) (t := t) (by omega) g216 g232 ht g2p hp2 hca gA gO (by omega) (by omega) (by omega) rfl) ?_
          rintro _ rfl
          refine y_ret (r := none) dm_X1_act_92 rfl rfl rfl ?_
          refine ⟨rfl, ?_⟩
          rw [mOut_v hW hbig hw9]
          rw [mA0_n hW, mA0_n hW]
          exact mAct_v hl hA h16 (fun _ _ _ => rfl) g1e gk gl1 gl2 gs2 gH h32 gO
theorem dm_X1_act_19 : mj_dec prog_3_method_16_code 19 = some (.iconst 0, 1) := by decide +kernel
theorem dm_X1_act_20 : mj_dec prog_3_method_16_code 20 = some (.goto 10, 3) := by decide +kernel
theorem dm_X1_act_51 : mj_dec prog_3_method_16_code 51 = some (.aload_n 0, 1) := by decide +kernel
theorem dm_X1_act_52 : mj_dec prog_3_method_16_code 52 = some (.getfield 12, 3) := by decide +kernel
theorem dm_X1_act_55 : mj_dec prog_3_method_16_code 55 = some (.aload_n 1, 1) := by decide +kernel
theorem dm_X1_act_56 : mj_dec prog_3_method_16_code 56 = some (.getfield 90, 3) := by decide +kernel
theorem dm_X1_act_59 : mj_dec prog_3_method_16_code 59 = some (.aload_n 0, 1) := by decide +kernel
theorem dm_X1_act_60 : mj_dec prog_3_method_16_code 60 = some (.getfield 83, 3) := by decide +kernel
theorem dm_X1_act_63 : mj_dec prog_3_method_16_code 63 = some (.invokevirtual 204, 3) := by decide +kernel
theorem dm_X1_act_66 : mj_dec prog_3_method_16_code 66 = some (.goto 22, 3) := by decide +kernel
theorem m_actO {xt : mj_X} {f1 : Nat → Value} {d t e qw : Nat} {A : Nat → Prop} {h : mj_H} {w : VV} {sf : Nat → Option Nat} {dp ca ou wk pl lv : Int} {nw vx vy dg : Value} (hx1 : xt 1 = some (.long, 0, f1)) (hd : 8 * e + 33 ≤ d) (hl : 127 ≤ h.length) (hA : okA A h) (hH0 : actH h) (h16 : h[16]? = some (mcC (t : Int) dp ca ou wk 0 pl nw vx vy dg lv .null (.ref qw))) (h32 : h[32]? = some (cA 4 8192 sf)) (ht : t < 8192) {p : Nat} {od pp ov oa om ot : Int} {onm : Int64} {ovl onx oot : Value} (hp : h[p]? = some (opC od pp ov onm oa om ot ovl onx oot)) (hp2 : 127 ≤ p) (hca : -2147483648 ≤ ca ∧ ca ≤ 2147483647) (hw : cv A h (e + 1) qw w) (hset2 : vsz (e + 1) w ≤ 1000) (he : e ≤ 18) (hov : -2147483648 ≤ ov ∧ ov ≤ 2147483647) (hwk : 0 ≤ wk ∧ wk ≤ 1000000) (hzz : cv A h 1 25 (v1 0 0)) : pgN xt d 81 [.ref 16, .ref p] h (fun h' => mAct A h (e + 2) t sf dp ca ou pl pp nw vx vy lv .null (.ref qw) (mOut (e + 2) wk (3 + ((vsz (e + 1) w : Int) + 0)) (s_one ov e w)) (mA0 wk (3 + ((vsz (e + 1) w : Int) + 0)) (oneA ov e w)) (mA0 wk (3 + ((vsz (e + 1) w : Int) + 0)) (oneB ov e w)) h') := by
  have h17 := hH0.1
  obtain ⟨f26, h26⟩ := hH0.2.2.2.2.2.2.2.2.1
  have hz9 := hw
  obtain ⟨hw2, ⟨hq2, hqA2⟩, hsz2, hlv2, row2, fr2, vals2, hwq, -, -, -, -⟩ := id hw
  have hqw : qw = 25 ∨ qw = 101 ∨ 127 ≤ qw := (hA qw hqA2).2
  refine x_enter pm_X1_act (L0 := [(0, .ref 16), (1, .ref p)]) rfl (Nat.le_of_ble_eq_true rfl) (by omega) ?_
  refine me1 (pc' := 1) (L' := [(0, .ref 16), (1, .ref p)]) (S' := [.ref 16]) dm_X1_act_0 rfl rfl rfl rfl ?_
  refine me0 (pc' := 2) (S' := [.null, .ref 16]) dm_X1_act_1 rfl rfl rfl rfl ?_
  refine me3 (pc' := 5) (S' := []) (h1 := (h).set 16 (cO 1 [.ref 4, .ref 17, .ref 26, .ref 32, ii (t : Int), .ref 33, ii dp, ii ca, ii ou, ii wk, ii 0, ii pl, nw, vx, vy, .null, ii lv, .null, .ref qw])) dm_X1_act_2 (g_put (fs' := [.ref 4, .ref 17, .ref 26, .ref 32, ii (t : Int), .ref 33, ii dp, ii ca, ii ou, ii wk, ii 0, ii pl, nw, vx, vy, .null, ii lv, .null, .ref qw]) h16 rfl rfl rfl (by simp) rfl (by decide) (fun z => by cases z) (by decide)) rfl rfl rfl ?_
  refine me1 (pc' := 6) (L' := [(0, .ref 16), (1, .ref p)]) (S' := [.ref 16]) dm_X1_act_5 rfl rfl rfl rfl ?_
  refine me3 (pc' := 9) (S' := [.ref qw]) dm_X1_act_6 (g_get (v := .ref qw) (hl_set (hl_lt h16)) rfl rfl (by decide)) rfl rfl rfl ?_
  refine me3 (pc' := 12) (S' := [ii (vsz (e + 1) w : Int)]) dm_X1_act_9 (g_get (v := ii (vsz (e + 1) w : Int)) (hl_ne (by omega) hwq) rfl rfl (by omega)) rfl rfl rfl ?_
  refine me1 (pc' := 13) (L' := [(0, .ref 16), (1, .ref p)]) (S' := [.ref 16, ii (vsz (e + 1) w : Int)]) dm_X1_act_12 rfl rfl rfl rfl ?_
  refine me3 (pc' := 16) (S' := [.null, ii (vsz (e + 1) w : Int)]) dm_X1_act_13 (g_get (v := .null) (hl_set (hl_lt h16)) rfl rfl (by decide)) rfl rfl rfl ?_
  refine me2 (pc' := 19) (S' := [ii (vsz (e + 1) w : Int)]) dm_X1_act_16 rfl rfl rfl ?_
  refine me0 (pc' := 20) (S' := [ii 0, ii (vsz (e + 1) w : Int)]) dm_X1_act_19 rfl rfl rfl rfl ?_
  refine me2 (pc' := 30) (S' := [ii 0, ii (vsz (e + 1) w : Int)]) dm_X1_act_20 rfl rfl rfl ?_
  refine y_iadd (a := (vsz (e + 1) w : Int)) (b := 0) dm_X1_act_30 (pc' := 31) rfl ?_
  refine me1 (pc' := 32) (L' := [(2, ii ((vsz (e + 1) w : Int) + 0)), (0, .ref 16), (1, .ref p)]) (S' := []) dm_X1_act_31 rfl rfl rfl rfl ?_
  refine me1 (pc' := 33) (L' := [(2, ii ((vsz (e + 1) w : Int) + 0)), (0, .ref 16), (1, .ref p)]) (S' := [.ref 16]) dm_X1_act_32 rfl rfl rfl rfl ?_
  refine me0 (pc' := 34) (S' := [ii 3, .ref 16]) dm_X1_act_33 rfl rfl rfl rfl ?_
  refine me1 (pc' := 35) (L' := [(2, ii ((vsz (e + 1) w : Int) + 0)), (0, .ref 16), (1, .ref p)]) (S' := [ii ((vsz (e + 1) w : Int) + 0), ii 3, .ref 16]) dm_X1_act_34 rfl rfl rfl rfl ?_
  refine y_iadd (a := 3) (b := (vsz (e + 1) w : Int) + 0) dm_X1_act_35 (pc' := 36) rfl ?_
  by_cases hW : wk < 3 + ((vsz (e + 1) w : Int) + 0)
  · refine me1 (pc' := 37) (L' := [(2, ii ((vsz (e + 1) w : Int) + 0)), (0, .ref 16), (1, .ref p)]) (S' := [.ref p, ii (3 + ((vsz (e + 1) w : Int) + 0)), .ref 16]) dm_X1_act_36 rfl rfl rfl rfl ?_
    refine x_cv (pc' := 40) (rest := []) dm_X1_act_37 rfl (g_inv (As := [ii (3 + ((vsz (e + 1) w : Int) + 0)), .ref p]) (S := []) (hl_set (hl_lt h16)) rfl rfl rfl (by decide)) rfl rfl rfl (m_takeF (n := 3 + ((vsz (e + 1) w : Int) + 0)) (by omega) (hl_set (hl_lt h16)) (hl_ne (by omega) hp) hp2 hca (by omega) hwk hW (by rw [List.set_set])) ?_
    rintro _ _ ⟨rfl, rfl⟩
    refine me_1t (pc' := 92) dm_X1_act_40 rfl (by decide) ?_
    refine y_ret (r := none) dm_X1_act_92 rfl rfl rfl ?_
    refine ⟨rfl, ?_⟩
    rw [mOut_w hW, mA0_w hW, mA0_w hW]
    exact mAct_w hl h16 (fun _ _ _ => rfl) hH0 h32
  · refine me1 (pc' := 37) (L' := [(2, ii ((vsz (e + 1) w : Int) + 0)), (0, .ref 16), (1, .ref p)]) (S' := [.ref p, ii (3 + ((vsz (e + 1) w : Int) + 0)), .ref 16]) dm_X1_act_36 rfl rfl rfl rfl ?_
    refine x_cv (pc' := 40) (rest := []) dm_X1_act_37 rfl (g_inv (As := [ii (3 + ((vsz (e + 1) w : Int) + 0)), .ref p]) (S := []) (hl_set (hl_lt h16)) rfl rfl rfl (by decide)) rfl rfl rfl (m_takeT (n := 3 + ((vsz (e + 1) w : Int) + 0)) (by omega) (hl_set (hl_lt h16)) (hl_ne (by omega) hp) hp2 hca (by omega) hwk (by omega) (by rw [List.set_set])) ?_
    rintro _ _ ⟨rfl, rfl⟩
    refine me_1f (pc' := 43) dm_X1_act_40 rfl (by decide) rfl ?_
    refine me1 (pc' := 44) (L' := [(2, ii ((vsz (e + 1) w : Int) + 0)), (0, .ref 16), (1, .ref p)]) (S' := [.ref 16]) dm_X1_act_43 rfl rfl rfl rfl ?_
    refine me1 (pc' := 45) (L' := [(2, ii ((vsz (e + 1) w : Int) + 0)), (0, .ref 16), (1, .ref p)]) (S' := [.ref 16, .ref 16]) dm_X1_act_44 rfl rfl rfl rfl ?_
    refine me3 (pc' := 48) (S' := [.null, .ref 16]) dm_X1_act_45 (g_get (v := .null) (hl_set (hl_lt h16)) rfl rfl (by decide)) rfl rfl rfl ?_
    refine me2 (pc' := 51) (S' := [.ref 16]) dm_X1_act_48 rfl rfl rfl ?_
    refine me1 (pc' := 52) (L' := [(2, ii ((vsz (e + 1) w : Int) + 0)), (0, .ref 16), (1, .ref p)]) (S' := [.ref 16, .ref 16]) dm_X1_act_51 rfl rfl rfl rfl ?_
    refine me3 (pc' := 55) (S' := [.ref 17, .ref 16]) dm_X1_act_52 (g_get (v := .ref 17) (hl_set (hl_lt h16)) rfl rfl (by decide)) rfl rfl rfl ?_
    refine me1 (pc' := 56) (L' := [(2, ii ((vsz (e + 1) w : Int) + 0)), (0, .ref 16), (1, .ref p)]) (S' := [.ref p, .ref 17, .ref 16]) dm_X1_act_55 rfl rfl rfl rfl ?_
    refine me3 (pc' := 59) (S' := [ii ov, .ref 17, .ref 16]) dm_X1_act_56 (g_get (v := ii ov) (hl_ne (by omega) hp) rfl rfl (by omega)) rfl rfl rfl ?_
    refine me1 (pc' := 60) (L' := [(2, ii ((vsz (e + 1) w : Int) + 0)), (0, .ref 16), (1, .ref p)]) (S' := [.ref 16, ii ov, .ref 17, .ref 16]) dm_X1_act_59 rfl rfl rfl rfl ?_
    refine me3 (pc' := 63) (S' := [.ref qw, ii ov, .ref 17, .ref 16]) dm_X1_act_60 (g_get (v := .ref qw) (hl_set (hl_lt h16)) rfl rfl (by decide)) rfl rfl rfl ?_
    obtain ⟨g1, g1e⟩ : ∃ g1, g1 = (h).set 16 (cO 1 [.ref 4, .ref 17, .ref 26, .ref 32, ii (t : Int), .ref 33, ii dp, ii ca, ii ou, ii (wk - (3 + ((vsz (e + 1) w : Int) + 0))), ii 0, ii pl, nw, vx, vy, .null, ii lv, .null, .ref qw]) := ⟨_, rfl⟩
    refine x_cv (pc' := 66) (rest := [.ref 16]) dm_X1_act_63 rfl (g_inv (As := [ii ov, .ref qw]) (S := [.ref 16]) (hl_ne (by decide) h17) rfl rfl rfl (by decide)) rfl rfl rfl ((show pgV xt (d - 1) _ _ _ (aact A ((h).set 16 (cO 1 [.ref 4, .ref 17, .ref 26, .ref 32, ii (t : Int), .ref 33, ii dp, ii ca, ii ou, ii (wk - (3 + ((vsz (e + 1) w : Int) + 0))), ii 0, ii pl, nw, vx, vy, .null, ii lv, .null, .ref qw])) (e + 2) (s_one ov e w) (oneA ov e w) (oneB ov e w)) from o_of hx1 (by omega) (by rw [List.length_set]; exact hl) (okA_st hA) (actH_st (Or.inl rfl) hH0) (cv_set (nA_st hA (Or.inl rfl)) hz9) he hset2 (cv_set (nA_st hA (Or.inl rfl)) hzz) hov)) ?_
    rintro x9 g2 hres
    rw [← g1e] at hres
    obtain ⟨qz, rfl, gk, gl1, gl2, gs2, gH, gO⟩ := aact_o hres
    have g1l : g1.length = h.length := by rw [g1e, List.length_set]
    have g216 : g2[16]? = some (cO 1 [.ref 4, .ref 17, .ref 26, .ref 32, ii (t : Int), .ref 33, ii dp, ii ca, ii ou, ii (wk - (3 + ((vsz (e + 1) w : Int) + 0))), ii 0, ii pl, nw, vx, vy, .null, ii lv, .null, .ref qw]) := by rw [gk 16 (by omega) (by unfold scr; omega), g1e, List.getElem?_set_self (by omega)]
    have g232 : g2[32]? = some (cA 4 8192 sf) := by rw [gk 32 (by omega) (by unfold scr; omega), g1e, List.getElem?_set_ne (by decide)]; exact h32
    have g2p : g2[p]? = some (cO 4 [ii od, ii pp, ii ov, .long onm, ii oa, ii om, ii ot, ovl, onx, oot]) := by rw [gk p (by have := hl_lt hp; omega) (by unfold scr; omega), g1e, List.getElem?_set_ne (by omega)]; exact hp
    refine me2 (pc' := 88) (S' := [.ref qz, .ref 16]) dm_X1_act_66 rfl rfl rfl ?_
    refine me1 (pc' := 89) (L' := [(2, ii ((vsz (e + 1) w : Int) + 0)), (0, .ref 16), (1, .ref p)]) (S' := [.ref p, .ref qz, .ref 16]) dm_X1_act_88 rfl rfl rfl rfl ?_
    rcases ho : (s_one ov e w) with n9 | v9
    · rw [ho] at gO
      have gO : 2 ≤ qz ∧ g2[qz]? = some (cVal 8 (Int64.ofInt (n9 : Int)) 1 0 0 0) := gO
      refine x_cn (pc' := 92) (rest := []) dm_X1_act_89 rfl (g_inv (As := [.ref qz, .ref p]) (S := []) g216 rfl rfl rfl (by decide)) rfl rfl rfl (m_finF (t := t) (by omega) g216 g232 ht g2p hp2 hca gO.2 gO.1 rfl) ?_
      rintro _ rfl
      refine y_ret (r := none) dm_X1_act_92 rfl rfl rfl ?_
      refine ⟨rfl, ?_⟩
      rw [mOut_f hW]
      rw [mA0_n hW, mA0_n hW]
      exact mAct_e hl h16 (fun _ _ _ => rfl) g1e gk gl1 gl2 gs2 gH h32
    · rw [ho] at gO
      have gO : cv (newA A g1 g2) g2 (e + 2) qz v9 := gO
      have gA : okA (newA A g1 g2) g2 := fun y hy => by rcases hy with z | z; (have := hA y z; exact ⟨by omega, this.2⟩); (exact ⟨z.2, by omega⟩)
      by_cases hbig : 1000 < vsz (e + 1 + 1) v9 ∨ 5 < vlv (e + 1 + 1) v9
      · refine x_cn (pc' := 92) (rest := []) dm_X1_act_89 rfl (g_inv (As := [.ref qz, .ref p]) (S := []) g216 rfl rfl rfl (by decide)) rfl rfl rfl (m_finB (e := e + 1) (t := t) (by omega) g216 g232 ht g2p hp2 hca gA gO hbig rfl) ?_
        rintro _ rfl
        refine y_ret (r := none) dm_X1_act_92 rfl rfl rfl ?_
        refine ⟨rfl, ?_⟩
        rw [mOut_b hW hbig]
        rw [mA0_n hW, mA0_n hW]
        exact mAct_e hl h16 (fun _ _ _ => rfl) g1e gk gl1 gl2 gs2 gH h32
      · by_cases hw9 : wk - (3 + ((vsz (e + 1) w : Int) + 0)) < (vsz (e + 1 + 1) v9 : Int)
        · refine x_cn (pc' := 92) (rest := []) dm_X1_act_89 rfl (g_inv (As := [.ref qz, .ref p]) (S := []) g216 rfl rfl rfl (by decide)) rfl rfl rfl (m_finW (e := e + 1) (t := t) (by omega) g216 g232 ht g2p hp2 hca gA gO (by omega) (by omega) hw9 rfl) ?_
          rintro _ rfl
          refine y_ret (r := none) dm_X1_act_92 rfl rfl rfl ?_
          refine ⟨rfl, ?_⟩
          rw [mOut_2 hW hbig hw9]
          rw [mA0_n hW, mA0_n hW]
          exact mAct_e hl h16 (fun _ _ _ => rfl) g1e gk gl1 gl2 gs2 gH h32
        · refine x_cn (pc' := 92) (rest := []) dm_X1_act_89 rfl (g_inv (As := [.ref qz, .ref p]) (S := []) g216 rfl rfl rfl (by decide)) rfl rfl rfl (m_finK (e := e + 1) (t := t) (by omega) g216 g232 ht g2p hp2 hca gA gO (by omega) (by omega) (by omega) rfl) ?_
          rintro _ rfl
          refine y_ret (r := none) dm_X1_act_92 rfl rfl rfl ?_
          refine ⟨rfl, ?_⟩
          rw [mOut_v hW hbig hw9]
          rw [mA0_n hW, mA0_n hW]
          exact mAct_v hl hA h16 (fun _ _ _ => rfl) g1e gk gl1 gl2 gs2 gH h32 gO
