/-! mj: runs in the form 'comes to an end, and P holds there': one goal at a time, calls walked in their place -/
def pgE (xt : mj_X) (d own nL : Nat) (ini : Bool) (ret : Option FieldType) (cf : Nat → Option (Instr × Nat)) (pc : Nat) (L : mj_L) (S : List Value) (h : mj_H) (P : Option Value → mj_H → Prop) : Prop :=
  ∃ r h', mjR (fun N => mj_call (mj_mmof pg_ms) (mj_TTof pg_TL) xt pg_tl 2 d N) (mj_TTof pg_TL own).1 (mj_TTof pg_TL own).2 xt pg_tl 2 nL d ini ret cf pc L S h r h' ∧ P r h'
section ME
variable {xt : mj_X} {d own nL : Nat} {ini : Bool} {ret : Option FieldType} {cf : Nat → Option (Instr × Nat)} {pc len pc' : Nat} {L L' : mj_L} {S S' : List Value} {h h1 : mj_H} {i : Instr} {P : Option Value → mj_H → Prop}
theorem me0 (hc : cf pc = some (i, len)) (hs : mj_alu i S = some S') (hk : mj_kd i = 0) (hl : mj_lenOk i len = true) (hp : pc + len = pc') (k : pgE xt d own nL ini ret cf pc' L S' h P) : pgE xt d own nL ini ret cf pc L S h P := by
  obtain ⟨r, h', a, b⟩ := k
  exact ⟨r, h', ms0 hc hs hk hl hp a, b⟩
theorem me1 (hc : cf pc = some (i, len)) (hs : mj_loc nL i L S = some (L', S')) (hk : mj_kd i = 1) (hl : mj_lenOk i len = true) (hp : pc + len = pc') (k : pgE xt d own nL ini ret cf pc' L' S' h P) : pgE xt d own nL ini ret cf pc L S h P := by
  obtain ⟨r, h', a, b⟩ := k
  exact ⟨r, h', ms1 hc hs hk hl hp a, b⟩
theorem me2 (hc : cf pc = some (i, len)) (hs : mj_br pc i S = some (pc', S')) (hk : mj_kd i = 2) (hl : mj_lenOk i len = true) (k : pgE xt d own nL ini ret cf pc' L S' h P) : pgE xt d own nL ini ret cf pc L S h P := by
  obtain ⟨r, h', a, b⟩ := k
  exact ⟨r, h', ms2 hc hs hk hl a, b⟩
theorem me3 (hc : cf pc = some (i, len)) (hs : mj_hp (mj_TTof pg_TL own).1 xt pg_tl 2 ini i S h = some (S', h1)) (hk : mj_kd i = 3) (hl : mj_lenOk i len = true) (hp : pc + len = pc') (k : pgE xt d own nL ini ret cf pc' L S' h1 P) : pgE xt d own nL ini ret cf pc L S h P := by
  obtain ⟨r, h', a, b⟩ := k
  exact ⟨r, h', ms3 hc hs hk hl hp a, b⟩
/-- what a call's end goes on with -/
abbrev pgK (xt : mj_X) (d own nL : Nat) (ini : Bool) (ret : Option FieldType) (cf : Nat → Option (Instr × Nat)) (pc : Nat) (L : mj_L) (S : List Value) (P : Option Value → mj_H → Prop) (r : Option Value) (h : mj_H) : Prop := match r with
  | some v => pgE xt d own nL ini ret cf pc L (v :: S) h P
  | none => pgE xt d own nL ini ret cf pc L S h P
theorem me4 {q nL' own' : Nat} {As rest : List Value} {nm : MethodName} {cc : ByteArray} {ret' : Option FieldType} {ini' : Bool} {cf' : Nat → Option (Instr × Nat)} {L0 : mj_L} (hc : cf pc = some (i, len)) (hpn : mj_prim (mj_TTof pg_TL own).2 pg_tl 2 i S h = none) (hs : mj_inv (mj_TTof pg_TL own).2 2 i S h = some (q + 1, As, rest)) (hM : mj_mmof pg_ms q = some ((nm, cc, nL', ret'), own', ini', cf')) (hL : lv_args 0 As = L0) (hl2 : (lg_sl As).length ≤ nL') (hk : mj_kd i = 4) (hl : mj_lenOk i len = true) (hp : pc + 3 = pc') (k : pgE xt d own' nL' ini' ret' cf' 0 L0 [] h (pgK xt (d + 1) own nL ini ret cf pc' L rest P)) : pgE xt (d + 1) own nL ini ret cf pc L S h P := by
  obtain ⟨r1, h1, a, b⟩ := k
  subst hL
  cases r1 with
  | none => obtain ⟨r, h', a2, b2⟩ := b; exact ⟨r, h', ms4 hc hpn hs (ms_call hM hl2 a) hk hl hp a2, b2⟩
  | some v => obtain ⟨r, h', a2, b2⟩ := b; exact ⟨r, h', ms4 hc hpn hs (ms_call hM hl2 a) hk hl hp a2, b2⟩
theorem me4o {As rest : List Value} (hc : cf pc = some (i, len)) (hpn : mj_prim (mj_TTof pg_TL own).2 pg_tl 2 i S h = none) (hs : mj_inv (mj_TTof pg_TL own).2 2 i S h = some (0, As, rest)) (hd : 0 < d) (hk : mj_kd i = 4) (hl : mj_lenOk i len = true) (hp : pc + 3 = pc') (k : pgE xt d own nL ini ret cf pc' L rest h P) : pgE xt d own nL ini ret cf pc L S h P := by
  obtain ⟨r, h', a, b⟩ := k
  exact ⟨r, h', ms4o hc hpn hs hd hk hl hp a, b⟩
theorem me4p (hc : cf pc = some (i, len)) (hs : mj_prim (mj_TTof pg_TL own).2 pg_tl 2 i S h = some (S', h1)) (hd : 0 < d) (hk : mj_kd i = 4) (hl : mj_lenOk i len = true) (hp : pc + 3 = pc') (k : pgE xt d own nL ini ret cf pc' L S' h1 P) : pgE xt d own nL ini ret cf pc L S h P := by
  obtain ⟨r, h', a, b⟩ := k
  exact ⟨r, h', ms4p hc hs hd hk hl hp a, b⟩
theorem me5 {r : Option Value} (hc : cf pc = some (i, len)) (hs : mj_ret ret i S = some r) (hk : mj_kd i = 5) (hl : mj_lenOk i len = true) (k : P r h) : pgE xt d own nL ini ret cf pc L S h P := ⟨r, h, ms5 hc hs hk hl, k⟩
theorem me_1t {k : Jvm.ClassFile.Cond} {off : Int} {x : Int32} (hc : cf pc = some (.ifCond k off, 3)) (ht : mj_to pc off = some pc') (hb : mj_cnd k x 0 = true) (q : pgE xt d own nL ini ret cf pc' L S h P) : pgE xt d own nL ini ret cf pc L (.int x :: S) h P := by
  obtain ⟨r, h', a, b⟩ := q
  exact ⟨r, h', ms_1t hc ht hb a, b⟩
theorem me_1f {k : Jvm.ClassFile.Cond} {off : Int} {x : Int32} {t : Nat} (hc : cf pc = some (.ifCond k off, 3)) (ht : mj_to pc off = some t) (hb : ¬ mj_cnd k x 0 = true) (hp : pc + 3 = pc') (q : pgE xt d own nL ini ret cf pc' L S h P) : pgE xt d own nL ini ret cf pc L (.int x :: S) h P := by
  obtain ⟨r, h', a, b⟩ := q
  exact ⟨r, h', ms_1f hc ht hb hp a, b⟩
theorem me_2t {k : Jvm.ClassFile.Cond} {off : Int} {x y : Int32} (hc : cf pc = some (.if_icmp k off, 3)) (ht : mj_to pc off = some pc') (hb : mj_cnd k x y = true) (q : pgE xt d own nL ini ret cf pc' L S h P) : pgE xt d own nL ini ret cf pc L (.int y :: .int x :: S) h P := by
  obtain ⟨r, h', a, b⟩ := q
  exact ⟨r, h', ms_2t hc ht hb a, b⟩
theorem me_2f {k : Jvm.ClassFile.Cond} {off : Int} {x y : Int32} {t : Nat} (hc : cf pc = some (.if_icmp k off, 3)) (ht : mj_to pc off = some t) (hb : ¬ mj_cnd k x y = true) (hp : pc + 3 = pc') (q : pgE xt d own nL ini ret cf pc' L S h P) : pgE xt d own nL ini ret cf pc L (.int y :: .int x :: S) h P := by
  obtain ⟨r, h', a, b⟩ := q
  exact ⟨r, h', ms_2f hc ht hb hp a, b⟩
theorem pg_cast {h2 : mj_H} (e : h = h2) (k : pgE xt d own nL ini ret cf pc L S h2 P) : pgE xt d own nL ini ret cf pc L S h P := by
  subst e
  exact k
theorem pg_imp {P' : Option Value → mj_H → Prop} (k : pgE xt d own nL ini ret cf pc L S h P) (hi : ∀ r h', P r h' → P' r h') : pgE xt d own nL ini ret cf pc L S h P' := by
  obtain ⟨r, h', a, b⟩ := k
  exact ⟨r, h', a, hi _ _ b⟩
end ME
/-! what is asked, by the numbers themselves -/
theorem cn_iff (x y : Int32) : (mj_cnd .eq x y = true ↔ x.toInt = y.toInt) ∧ (mj_cnd .ne x y = true ↔ x.toInt ≠ y.toInt) ∧ (mj_cnd .lt x y = true ↔ x.toInt < y.toInt) ∧ (mj_cnd .ge x y = true ↔ y.toInt ≤ x.toInt) ∧ (mj_cnd .gt x y = true ↔ y.toInt < x.toInt) ∧ (mj_cnd .le x y = true ↔ x.toInt ≤ y.toInt) := by
  have e1 : (x = y) ↔ x.toInt = y.toInt := Int32.toInt_inj.symm
  have e2 : (x < y) ↔ x.toInt < y.toInt := Int32.lt_iff_toInt_lt
  have e3 : (y < x) ↔ y.toInt < x.toInt := Int32.lt_iff_toInt_lt
  have e4 : (x ≤ y) ↔ x.toInt ≤ y.toInt := Int32.le_iff_toInt_le
  have e5 : (y ≤ x) ↔ y.toInt ≤ x.toInt := Int32.le_iff_toInt_le
  refine ⟨?_, ?_, ?_, ?_, ?_, ?_⟩ <;> simp only [mj_cnd, decide_eq_true_eq, Bool.not_eq_true', decide_eq_false_iff_not, ne_eq, e1, e2, e3, e4, e5]
theorem cn_t_eq {x y : Int32} {c : Int} (hc : y.toInt = c) (h : x.toInt = c) : mj_cnd .eq x y = true := (cn_iff x y).1.mpr (h.trans hc.symm)
theorem cn_f_eq {x y : Int32} {c : Int} (hc : y.toInt = c) (h : x.toInt ≠ c) : ¬ mj_cnd .eq x y = true := fun z => h (((cn_iff x y).1.mp z).trans hc)
theorem cn_t_ne {x y : Int32} {c : Int} (hc : y.toInt = c) (h : x.toInt ≠ c) : mj_cnd .ne x y = true := (cn_iff x y).2.1.mpr (fun z => h (z.trans hc))
theorem cn_f_ne {x y : Int32} {c : Int} (hc : y.toInt = c) (h : x.toInt = c) : ¬ mj_cnd .ne x y = true := fun z => (cn_iff x y).2.1.mp z (h.trans hc.symm)
theorem cn_t_lt {x y : Int32} {c : Int} (hc : y.toInt = c) (h : x.toInt < c) : mj_cnd .lt x y = true := (cn_iff x y).2.2.1.mpr (by omega)
theorem cn_f_lt {x y : Int32} {c : Int} (hc : y.toInt = c) (h : c ≤ x.toInt) : ¬ mj_cnd .lt x y = true := fun z => by have := (cn_iff x y).2.2.1.mp z; omega
theorem cn_t_ge {x y : Int32} {c : Int} (hc : y.toInt = c) (h : c ≤ x.toInt) : mj_cnd .ge x y = true := (cn_iff x y).2.2.2.1.mpr (by omega)
theorem cn_f_ge {x y : Int32} {c : Int} (hc : y.toInt = c) (h : x.toInt < c) : ¬ mj_cnd .ge x y = true := fun z => by have := (cn_iff x y).2.2.2.1.mp z; omega
theorem cn_t_gt {x y : Int32} {c : Int} (hc : y.toInt = c) (h : c < x.toInt) : mj_cnd .gt x y = true := (cn_iff x y).2.2.2.2.1.mpr (by omega)
theorem cn_f_gt {x y : Int32} {c : Int} (hc : y.toInt = c) (h : x.toInt ≤ c) : ¬ mj_cnd .gt x y = true := fun z => by have := (cn_iff x y).2.2.2.2.1.mp z; omega
theorem cn_t_le {x y : Int32} {c : Int} (hc : y.toInt = c) (h : x.toInt ≤ c) : mj_cnd .le x y = true := (cn_iff x y).2.2.2.2.2.mpr (by omega)
theorem cn_f_le {x y : Int32} {c : Int} (hc : y.toInt = c) (h : c < x.toInt) : ¬ mj_cnd .le x y = true := fun z => by have := (cn_iff x y).2.2.2.2.2.mp z; omega
/-! heaps whose stretches are written out -/
section HG
variable {T : mj_T} {xt : mj_X} {tl : List (FieldType × Nat)} {ini : Bool} {S : List Value} {H H' : mj_H} {a : Nat}
theorem g_get {x k ci fin : Nat} {ty : FieldType} {fs : List Value} {v : Value} (hg : H[a]? = some (.inr (ci, fs))) (hx : T.1 x = some (ci, k, ty, fin)) (hv : fs[k]? = some v) (ha : 2 ≤ a) : mj_hp T xt tl 2 ini (.getfield x) (.ref a :: S) H = some (v :: S, H) := by
  unfold mj_hp mj_gf
  simp only [hx, hg, hv, ha, and_self, if_true, Option.map_some]
theorem g_put {x k ci fin : Nat} {ty : FieldType} {fs fs' : List Value} {v : Value} (hg : H[a]? = some (.inr (ci, fs))) (he : fs.set k v = fs') (hs : H.set a (.inr (ci, fs')) = H') (hx : T.1 x = some (ci, k, ty, fin)) (hk : k < fs.length) (hf : mj_fit ty v = true) (h0 : fin ≠ 2) (h1 : fin = 1 → ini = true) (ha : 2 ≤ a) : mj_hp T xt tl 2 ini (.putfield x) (v :: .ref a :: S) H = some (S, H') := by
  unfold mj_hp mj_pf
  simp only [hx, hg]
  rw [if_pos ⟨trivial, hk, ha, hf, h0, h1⟩, he, hs]
theorem g_iald {j v : Int32} {t n z : Nat} {f : Nat → Int32} (hg : H[a]? = some (.inl (t, n, .inl f))) (ht : tl[t]? = some (.int, z)) (hj : ¬ (j < 0 ∨ n ≤ j.toNatClampNeg)) (he : f j.toNatClampNeg = v) (ha : 2 ≤ a) : mj_hp T xt tl 2 ini .iaload (.int j :: .ref a :: S) H = some (.int v :: S, H) := by
  unfold mj_hp mj_ald
  have h3 : ¬ a < 2 := by omega
  simp only [h3, hg, hj, ht, if_false, he]
theorem g_bald {j v : Int32} {t n z : Nat} {f : Nat → Int32} (hg : H[a]? = some (.inl (t, n, .inl f))) (ht : tl[t]? = some (.byte, z)) (hj : ¬ (j < 0 ∨ n ≤ j.toNatClampNeg)) (he : f j.toNatClampNeg = v) (ha : 2 ≤ a) : mj_hp T xt tl 2 ini .baload (.int j :: .ref a :: S) H = some (.int v :: S, H) := by
  unfold mj_hp mj_ald
  have h3 : ¬ a < 2 := by omega
  simp only [h3, hg, hj, ht, if_false, he]
theorem g_zald {j v : Int32} {t n z : Nat} {f : Nat → Int32} (hg : H[a]? = some (.inl (t, n, .inl f))) (ht : tl[t]? = some (.boolean, z)) (hj : ¬ (j < 0 ∨ n ≤ j.toNatClampNeg)) (he : f j.toNatClampNeg = v) (ha : 2 ≤ a) : mj_hp T xt tl 2 ini .baload (.int j :: .ref a :: S) H = some (.int v :: S, H) := by
  unfold mj_hp mj_ald
  have h3 : ¬ a < 2 := by omega
  simp only [h3, hg, hj, ht, if_false, he]
theorem g_lald {j : Int32} {v : Int64} {t n z : Nat} {f : Nat → Int64} (hg : H[a]? = some (.inl (t, n, .inr (.inl f)))) (ht : tl[t]? = some (.long, z)) (hj : ¬ (j < 0 ∨ n ≤ j.toNatClampNeg)) (he : f j.toNatClampNeg = v) (ha : 2 ≤ a) : mj_hp T xt tl 2 ini .laload (.int j :: .ref a :: S) H = some (.long v :: S, H) := by
  unfold mj_hp mj_ald
  have h3 : ¬ a < 2 := by omega
  simp only [h3, hg, hj, ht, if_false, he]
theorem g_aald {j : Int32} {v : Value} {t n z : Nat} {C : String} {f : Nat → Option Nat} (hg : H[a]? = some (.inl (t, n, .inr (.inr (.inr (.inr f)))))) (ht : tl[t]? = some (.object C, z)) (hj : ¬ (j < 0 ∨ n ≤ j.toNatClampNeg)) (he : va_rf (f j.toNatClampNeg) = v) (ha : 2 ≤ a) : mj_hp T xt tl 2 ini .aaload (.int j :: .ref a :: S) H = some (v :: S, H) := by
  unfold mj_hp mj_ald
  have h3 : ¬ a < 2 := by omega
  simp only [h3, hg, hj, ht, if_false, he]
theorem g_iast {j v : Int32} {t n z : Nat} {f : Nat → Int32} (hg : H[a]? = some (.inl (t, n, .inl f))) (hs : H.set a (.inl (t, n, .inl (upd f j.toNatClampNeg v))) = H') (ht : tl[t]? = some (.int, z)) (hj : ¬ (j < 0 ∨ n ≤ j.toNatClampNeg)) (ha : 2 ≤ a) : mj_hp T xt tl 2 ini .iastore (.int v :: .int j :: .ref a :: S) H = some (S, H') := by
  unfold mj_hp mj_ast
  have h3 : ¬ a < 2 := by omega
  simp only [h3, hg, hj, ht, if_false, hs]
theorem g_bast {j v : Int32} {t n z : Nat} {f : Nat → Int32} (hg : H[a]? = some (.inl (t, n, .inl f))) (hs : H.set a (.inl (t, n, .inl (upd f j.toNatClampNeg (vp_nar .byte v)))) = H') (ht : tl[t]? = some (.byte, z)) (hj : ¬ (j < 0 ∨ n ≤ j.toNatClampNeg)) (ha : 2 ≤ a) : mj_hp T xt tl 2 ini .bastore (.int v :: .int j :: .ref a :: S) H = some (S, H') := by
  unfold mj_hp mj_ast
  have h3 : ¬ a < 2 := by omega
  simp only [h3, hg, hj, ht, if_false, hs]
theorem g_zast {j v : Int32} {t n z : Nat} {f : Nat → Int32} (hg : H[a]? = some (.inl (t, n, .inl f))) (hs : H.set a (.inl (t, n, .inl (upd f j.toNatClampNeg (vp_nar .boolean v)))) = H') (ht : tl[t]? = some (.boolean, z)) (hj : ¬ (j < 0 ∨ n ≤ j.toNatClampNeg)) (ha : 2 ≤ a) : mj_hp T xt tl 2 ini .bastore (.int v :: .int j :: .ref a :: S) H = some (S, H') := by
  unfold mj_hp mj_ast
  have h3 : ¬ a < 2 := by omega
  simp only [h3, hg, hj, ht, if_false, hs]
theorem g_last {j : Int32} {v : Int64} {t n z : Nat} {f : Nat → Int64} (hg : H[a]? = some (.inl (t, n, .inr (.inl f)))) (hs : H.set a (.inl (t, n, .inr (.inl (vp_updL f j.toNatClampNeg v)))) = H') (ht : tl[t]? = some (.long, z)) (hj : ¬ (j < 0 ∨ n ≤ j.toNatClampNeg)) (ha : 2 ≤ a) : mj_hp T xt tl 2 ini .lastore (.long v :: .int j :: .ref a :: S) H = some (S, H') := by
  unfold mj_hp mj_ast
  have h3 : ¬ a < 2 := by omega
  simp only [h3, hg, hj, ht, if_false, hs]
theorem g_aastn {j : Int32} {t n z : Nat} {C : String} {f : Nat → Option Nat} (hg : H[a]? = some (.inl (t, n, .inr (.inr (.inr (.inr f)))))) (hs : H.set a (.inl (t, n, .inr (.inr (.inr (.inr (va_up f j.toNatClampNeg none)))))) = H') (ht : tl[t]? = some (.object C, z)) (hj : ¬ (j < 0 ∨ n ≤ j.toNatClampNeg)) (ha : 2 ≤ a) : mj_hp T xt tl 2 ini .aastore (.null :: .int j :: .ref a :: S) H = some (S, H') := by
  unfold mj_hp mj_ast
  have h3 : ¬ a < 2 := by omega
  simp only [h3, hg, hj, ht, if_false, hs]
theorem g_aastr {j : Int32} {t n z b : Nat} {C : String} {fs : List Value} {f : Nat → Option Nat} (hg : H[a]? = some (.inl (t, n, .inr (.inr (.inr (.inr f)))))) (hs : H.set a (.inl (t, n, .inr (.inr (.inr (.inr (va_up f j.toNatClampNeg (some b))))))) = H') (hb : H[b]? = some (.inr (z, fs))) (ht : tl[t]? = some (.object C, z)) (hj : ¬ (j < 0 ∨ n ≤ j.toNatClampNeg)) (ha : 2 ≤ a) (hb2 : 2 ≤ b) : mj_hp T xt tl 2 ini .aastore (.ref b :: .int j :: .ref a :: S) H = some (S, H') := by
  unfold mj_hp mj_ast
  have h3 : ¬ a < 2 := by omega
  simp only [h3, hg, hj, ht, if_false, hs, hb, hb2, and_self, if_true]
theorem g_len {t n : Nat} {q : (Nat → Int32) ⊕ (Nat → Int64) ⊕ (Nat → UInt32) ⊕ (Nat → UInt64) ⊕ (Nat → Option Nat)} {z : FieldType × Nat} {v : Int32} (hg : H[a]? = some (.inl (t, n, q))) (ht : tl[t]? = some z) (he : Int32.ofNat n = v) (ha : 2 ≤ a) : mj_hp T xt tl 2 ini .arraylength (.ref a :: S) H = some (.int v :: S, H) := by
  unfold mj_hp mj_aln
  have h3 : ¬ a < 2 := by omega
  simp only [h3, hg, ht, if_false, he]
theorem g_nwa {aty : ArrayType} {n : Int32} {t : Nat} {f : (Nat → Int32) ⊕ (Nat → Int64) ⊕ (Nat → UInt32) ⊕ (Nat → UInt64) ⊕ (Nat → Option Nat)} (hl : H.length = a) (hs : H ++ [.inl (t, n.toNatClampNeg, f)] = H') (hn : mj_na aty = some (t, f)) (hc : ¬ (n < 0 ∨ 1000000 < n.toNatClampNeg ∨ (tl[t]?).map (fun q => q.1) ≠ some (newarray.typeOf aty))) : mj_hp T xt tl 2 ini (.newarray aty) (.int n :: S) H = some (.ref a :: S, H') := by
  unfold mj_hp mj_nwa
  simp only [hn, hl]
  rw [if_neg hc, hs]
theorem g_nwq {x : Nat} {n : Int32} {t : Nat} (hl : H.length = a) (hs : H ++ [.inl (t, n.toNatClampNeg, .inr (.inr (.inr (.inr fun _ => none))))] = H') (hn : T.2.2.2.2.1 x = some t) (hc : ¬ (n < 0 ∨ 1000000 < n.toNatClampNeg)) : mj_hp T xt tl 2 ini (.anewarray x) (.int n :: S) H = some (.ref a :: S, H') := by
  unfold mj_hp mj_nwq
  simp only [hn, hl]
  rw [if_neg hc, hs]
theorem g_nw {x ci : Nat} {fs : List Value} (hl : H.length = a) (hs : H ++ [.inr (ci, fs)] = H') (hn : T.2.2.2.1 x = some (ci, fs)) : mj_hp T xt tl 2 ini (.new x) S H = some (.ref a :: S, H') := by
  unfold mj_hp mj_nw
  simp only [hn, hl, hs]
theorem g_inv {mt : mj_C} {x k nn ci : Nat} {As : List Value} {fs : List Value} (hg : H[a]? = some (.inr (ci, fs))) (hx : mt x = some (1, k, nn, ci)) (hl : As.length = nn) (hr : mj_room S = true) (ha : 2 ≤ a) : mj_inv mt 2 (.invokevirtual x) (As.reverse ++ .ref a :: S) H = some (k + 1, .ref a :: As, S) := by
  unfold mj_inv
  have e1 : (As.reverse ++ Value.ref a :: S).drop nn = .ref a :: S := by rw [List.drop_append, ← hl, ← List.length_reverse, List.drop_length, Nat.sub_self]; rfl
  have e2 : (As.reverse ++ Value.ref a :: S).take nn = As.reverse := by rw [List.take_append, ← hl, ← List.length_reverse, List.take_length, Nat.sub_self]; simp
  simp only [hx, e1, e2, hg, ha, hr, and_self, if_true, List.reverse_reverse]
theorem g_invp {mt : mj_C} {x k nn ci : Nat} {As : List Value} (hx : mt x = some (3, k, nn, ci)) (hl : As.length = nn) (hr : mj_room S = true) : mj_inv mt 2 (.invokespecial x) (As.reverse ++ .ref a :: S) H = some (k + 1, .ref a :: As, S) := by
  unfold mj_inv
  have e1 : (As.reverse ++ Value.ref a :: S).drop nn = .ref a :: S := by rw [List.drop_append, ← hl, ← List.length_reverse, List.drop_length, Nat.sub_self]; rfl
  have e2 : (As.reverse ++ Value.ref a :: S).take nn = As.reverse := by rw [List.take_append, ← hl, ← List.length_reverse, List.take_length, Nat.sub_self]; simp
  simp only [hx, e1, e2, hr, if_true, List.reverse_reverse]
theorem g_invs {mt : mj_C} {x k nn ci : Nat} {As : List Value} (hx : mt x = some (2, k, nn, ci)) (hl : As.length = nn) (hr : mj_room S = true) : mj_inv mt 2 (.invokestatic x) (As.reverse ++ S) H = some (k + 1, As, S) := by
  unfold mj_inv
  have e1 : (As.reverse ++ S).drop nn = S := by rw [List.drop_append, ← hl, ← List.length_reverse, List.drop_length, Nat.sub_self]; rfl
  have e2 : (As.reverse ++ S).take nn = As.reverse := by rw [List.take_append, ← hl, ← List.length_reverse, List.take_length, Nat.sub_self]; simp
  have e3 : nn ≤ (As.reverse ++ S).length := by rw [List.length_append, List.length_reverse]; omega
  simp only [hx, e1, e2, e3, hr, and_self, if_true, List.reverse_reverse]
end HG
/-! two stretches: U behind h, D at the end -/
section HL
variable {h U V W D : mj_H} {n u v j : Nat} {e : mj_E}
theorem lu (hn : h.length = n) (hU : U[j]? = some e) : (h ++ (U ++ W))[n + j]? = some e := by
  have hj : j < U.length := (List.getElem?_eq_some_iff.mp hU).1
  rw [List.getElem?_append_right (by omega), hn, Nat.add_sub_cancel_left, List.getElem?_append_left hj]
  exact hU
theorem su (hn : h.length = n) (hU : U[j]? = some e) (e' : mj_E) : (h ++ (U ++ W)).set (n + j) e' = h ++ (U.set j e' ++ W) := by
  have hj : j < U.length := (List.getElem?_eq_some_iff.mp hU).1
  rw [List.set_append_right _ _ (by omega), hn, Nat.add_sub_cancel_left, List.set_append_left _ _ hj]
theorem le_ (hn : h.length = n) (hu : U.length = u) (hv : V.length = v) (hD : D[j]? = some e) : (h ++ (U ++ (V ++ D)))[n + (u + (v + j))]? = some e := by
  rw [List.getElem?_append_right (by omega), hn, Nat.add_sub_cancel_left, List.getElem?_append_right (by omega), hu, Nat.add_sub_cancel_left, List.getElem?_append_right (by omega), hv, Nat.add_sub_cancel_left]
  exact hD
theorem se (hn : h.length = n) (hu : U.length = u) (hv : V.length = v) (e' : mj_E) : (h ++ (U ++ (V ++ D))).set (n + (u + (v + j))) e' = h ++ (U ++ (V ++ D.set j e')) := by
  rw [List.set_append_right _ _ (by omega), hn, Nat.add_sub_cancel_left, List.set_append_right _ _ (by omega), hu, Nat.add_sub_cancel_left, List.set_append_right _ _ (by omega), hv, Nat.add_sub_cancel_left]
theorem ne_ (hn : h.length = n) (hu : U.length = u) (hv : V.length = v) (hD : D.length = j) : (h ++ (U ++ (V ++ D))).length = n + (u + (v + j)) := by
  rw [List.length_append, List.length_append, List.length_append, hn, hu, hv, hD]
theorem ae (e' : mj_E) : (h ++ (U ++ (V ++ D))) ++ [e'] = h ++ (U ++ (V ++ (D ++ [e']))) := by
  rw [List.append_assoc, List.append_assoc, List.append_assoc]
end HL
section HU
variable {T : mj_T} {xt : mj_X} {tl : List (FieldType × Nat)} {ini : Bool} {S : List Value} {h U U' W : mj_H} {n j : Nat}
theorem u_put {x k ci fin : Nat} {ty : FieldType} {fs fs' : List Value} {v : Value} (hn : h.length = n) (hU : U[j]? = some (.inr (ci, fs))) (he : fs.set k v = fs') (hx : T.1 x = some (ci, k, ty, fin)) (hk : k < fs.length) (hf : mj_fit ty v = true) (h0 : fin ≠ 2) (h1 : fin = 1 → ini = true) (hUU : U.set j (.inr (ci, fs')) = U') (ha : 2 ≤ n + j) : mj_hp T xt tl 2 ini (.putfield x) (v :: .ref (n + j) :: S) (h ++ (U ++ W)) = some (S, h ++ (U' ++ W)) := g_put (lu hn hU) he ((su hn hU _).trans (congrArg (fun z => h ++ (z ++ W)) hUU)) hx hk hf h0 h1 ha
theorem u_iast {i v : Int32} {t m z : Nat} {f : Nat → Int32} (hn : h.length = n) (hU : U[j]? = some (.inl (t, m, .inl f))) (ht : tl[t]? = some (.int, z)) (hj : ¬ (i < 0 ∨ m ≤ i.toNatClampNeg)) (hUU : U.set j (.inl (t, m, .inl (upd f i.toNatClampNeg v))) = U') (ha : 2 ≤ n + j) : mj_hp T xt tl 2 ini .iastore (.int v :: .int i :: .ref (n + j) :: S) (h ++ (U ++ W)) = some (S, h ++ (U' ++ W)) := g_iast (lu hn hU) ((su hn hU _).trans (congrArg (fun z => h ++ (z ++ W)) hUU)) ht hj ha
theorem u_bast {i v : Int32} {t m z : Nat} {f : Nat → Int32} (hn : h.length = n) (hU : U[j]? = some (.inl (t, m, .inl f))) (ht : tl[t]? = some (.byte, z)) (hj : ¬ (i < 0 ∨ m ≤ i.toNatClampNeg)) (hUU : U.set j (.inl (t, m, .inl (upd f i.toNatClampNeg (vp_nar .byte v)))) = U') (ha : 2 ≤ n + j) : mj_hp T xt tl 2 ini .bastore (.int v :: .int i :: .ref (n + j) :: S) (h ++ (U ++ W)) = some (S, h ++ (U' ++ W)) := g_bast (lu hn hU) ((su hn hU _).trans (congrArg (fun z => h ++ (z ++ W)) hUU)) ht hj ha
theorem u_zast {i v : Int32} {t m z : Nat} {f : Nat → Int32} (hn : h.length = n) (hU : U[j]? = some (.inl (t, m, .inl f))) (ht : tl[t]? = some (.boolean, z)) (hj : ¬ (i < 0 ∨ m ≤ i.toNatClampNeg)) (hUU : U.set j (.inl (t, m, .inl (upd f i.toNatClampNeg (vp_nar .boolean v)))) = U') (ha : 2 ≤ n + j) : mj_hp T xt tl 2 ini .bastore (.int v :: .int i :: .ref (n + j) :: S) (h ++ (U ++ W)) = some (S, h ++ (U' ++ W)) := g_zast (lu hn hU) ((su hn hU _).trans (congrArg (fun z => h ++ (z ++ W)) hUU)) ht hj ha
theorem u_last {i : Int32} {v : Int64} {t m z : Nat} {f : Nat → Int64} (hn : h.length = n) (hU : U[j]? = some (.inl (t, m, .inr (.inl f)))) (ht : tl[t]? = some (.long, z)) (hj : ¬ (i < 0 ∨ m ≤ i.toNatClampNeg)) (hUU : U.set j (.inl (t, m, .inr (.inl (vp_updL f i.toNatClampNeg v)))) = U') (ha : 2 ≤ n + j) : mj_hp T xt tl 2 ini .lastore (.long v :: .int i :: .ref (n + j) :: S) (h ++ (U ++ W)) = some (S, h ++ (U' ++ W)) := g_last (lu hn hU) ((su hn hU _).trans (congrArg (fun z => h ++ (z ++ W)) hUU)) ht hj ha
theorem u_aastn {i : Int32} {t m z : Nat} {C : String} {f : Nat → Option Nat} (hn : h.length = n) (hU : U[j]? = some (.inl (t, m, .inr (.inr (.inr (.inr f)))))) (ht : tl[t]? = some (.object C, z)) (hj : ¬ (i < 0 ∨ m ≤ i.toNatClampNeg)) (hUU : U.set j (.inl (t, m, .inr (.inr (.inr (.inr (va_up f i.toNatClampNeg none)))))) = U') (ha : 2 ≤ n + j) : mj_hp T xt tl 2 ini .aastore (.null :: .int i :: .ref (n + j) :: S) (h ++ (U ++ W)) = some (S, h ++ (U' ++ W)) := g_aastn (lu hn hU) ((su hn hU _).trans (congrArg (fun z => h ++ (z ++ W)) hUU)) ht hj ha
theorem u_aastr {i : Int32} {t m z b : Nat} {C : String} {fs : List Value} {f : Nat → Option Nat} (hn : h.length = n) (hU : U[j]? = some (.inl (t, m, .inr (.inr (.inr (.inr f)))))) (hb : (h ++ (U ++ W))[b]? = some (.inr (z, fs))) (ht : tl[t]? = some (.object C, z)) (hj : ¬ (i < 0 ∨ m ≤ i.toNatClampNeg)) (hUU : U.set j (.inl (t, m, .inr (.inr (.inr (.inr (va_up f i.toNatClampNeg (some b))))))) = U') (ha : 2 ≤ n + j) (hb2 : 2 ≤ b) : mj_hp T xt tl 2 ini .aastore (.ref b :: .int i :: .ref (n + j) :: S) (h ++ (U ++ W)) = some (S, h ++ (U' ++ W)) := g_aastr (lu hn hU) ((su hn hU _).trans (congrArg (fun z => h ++ (z ++ W)) hUU)) hb ht hj ha hb2
end HU
/-- the script's own ints -/
theorem x_iald {T : mj_T} {xt : mj_X} {tl : List (FieldType × Nat)} {ini : Bool} {S : List Value} {H : mj_H} {a n : Nat} {j v : Int32} {f : Nat → Value} (hx : xt a = some (.int, n, f)) (ha : a < 2) (hj : ¬ (j < 0 ∨ n ≤ j.toNatClampNeg)) (he : f j.toNatClampNeg = .int v) : mj_hp T xt tl 2 ini .iaload (.int j :: .ref a :: S) H = some (.int v :: S, H) := by
  unfold mj_hp mj_ald mj_alx
  simp only [ha, hx, hj, he, if_true, if_false]
theorem x_len {T : mj_T} {xt : mj_X} {tl : List (FieldType × Nat)} {ini : Bool} {S : List Value} {H : mj_H} {a n : Nat} {v : Int32} {ty : FieldType} {f : Nat → Value} (hx : xt a = some (ty, n, f)) (ha : a < 2) (he : Int32.ofNat n = v) : mj_hp T xt tl 2 ini .arraylength (.ref a :: S) H = some (.int v :: S, H) := by
  unfold mj_hp mj_aln
  simp only [ha, hx, he, if_true, Option.map_some]
theorem sl_set {l : mj_H} {j : Nat} {e e' : mj_E} (h : l[j]? = some e) (h1 : mj_sl1 e' = mj_sl1 e) : mj_sl (l.set j e') = mj_sl l := by
  unfold mj_sl
  induction l generalizing j with
  | nil => rfl
  | cons a l ih =>
    cases j with
    | zero =>
      simp only [List.getElem?_cons_zero, Option.some.injEq] at h
      subst h
      simp only [List.set_cons_zero, List.map_cons, List.sum_cons, h1]
    | succ j =>
      simp only [List.getElem?_cons_succ] at h
      simp only [List.set_cons_succ, List.map_cons, List.sum_cons, ih h]
