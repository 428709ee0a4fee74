/-! mj: rows for divisions, switches, bytes and booleans -/
section MSM
variable {call : Nat → Nat → List Value → mj_H → mj_R} {T : mj_T} {mt : mj_C} {xt : mj_X} {tl : List (FieldType × Nat)} {c0 nL dep : Nat} {ini : Bool} {ret : Option FieldType} {code : Nat → Option (Instr × Nat)}
variable {pc len pc' : Nat} {L L' : mj_L} {S S' : List Value} {h h' h1 : mj_H} {i : Instr} {r : Option Value}
theorem ms_idiv {x y : Int32} (hc : code pc = some (.idiv, 1)) (hy : ¬ y = 0) (hp : pc + 1 = pc') (k : mjR call T mt xt tl c0 nL dep ini ret code pc' L (.int (x / y) :: S) h r h') : mjR call T mt xt tl c0 nL dep ini ret code pc L (.int y :: .int x :: S) h r h' := by
  refine ms0 hc ?_ rfl rfl hp k
  show ((if y = 0 then none else some (Value.int (x / y))).map fun v => v :: S) = _
  rw [if_neg hy]; rfl
theorem ms_irem {x y : Int32} (hc : code pc = some (.irem, 1)) (hy : ¬ y = 0) (hp : pc + 1 = pc') (k : mjR call T mt xt tl c0 nL dep ini ret code pc' L (.int (x - x / y * y) :: S) h r h') : mjR call T mt xt tl c0 nL dep ini ret code pc L (.int y :: .int x :: S) h r h' := by
  refine ms0 hc ?_ rfl rfl hp k
  show ((if y = 0 then none else some (Value.int (x - x / y * y))).map fun v => v :: S) = _
  rw [if_neg hy]; rfl
theorem ms_ldiv {x y : Int64} (hc : code pc = some (.ldiv, 1)) (hy : ¬ y = 0) (hp : pc + 1 = pc') (k : mjR call T mt xt tl c0 nL dep ini ret code pc' L (.long (x / y) :: S) h r h') : mjR call T mt xt tl c0 nL dep ini ret code pc L (.long y :: .long x :: S) h r h' := by
  refine ms0 hc ?_ rfl rfl hp k
  show ((if y = 0 then none else some (Value.long (x / y))).map fun v => v :: S) = _
  rw [if_neg hy]; rfl
theorem ms_lrem {x y : Int64} (hc : code pc = some (.lrem, 1)) (hy : ¬ y = 0) (hp : pc + 1 = pc') (k : mjR call T mt xt tl c0 nL dep ini ret code pc' L (.long (x - x / y * y) :: S) h r h') : mjR call T mt xt tl c0 nL dep ini ret code pc L (.long y :: .long x :: S) h r h' := by
  refine ms0 hc ?_ rfl rfl hp k
  show ((if y = 0 then none else some (Value.long (x - x / y * y))).map fun v => v :: S) = _
  rw [if_neg hy]; rfl
theorem mj_cnd_eq {x y : Int32} : mj_cnd .eq x y = true ↔ x = y := by
  unfold mj_cnd
  simp
/-- a switch at one of its keys, or not -/
theorem ms_sw {x : Int32} {t : Nat} (c : Int32) (hc : code pc = some (i, len)) (hs : mj_br pc i (.int c :: S) = some (t, S)) (hk : mj_kd i = 2) (hl : mj_lenOk i len = true) (kt : mj_cnd .eq x c = true → mjR call T mt xt tl c0 nL dep ini ret code t L S h r h') (kf : ¬ mj_cnd .eq x c = true → mjR call T mt xt tl c0 nL dep ini ret code pc L (.int x :: S) h r h') : mjR call T mt xt tl c0 nL dep ini ret code pc L (.int x :: S) h r h' := by
  by_cases hb : mj_cnd .eq x c = true
  · have := kt hb
    rw [mj_cnd_eq] at hb
    subst hb
    exact ms2 hc hs hk hl this
  · exact kf hb
end MSM
/-- x is none of these -/
def sw_no (x : Int32) : List Int32 → Prop
  | [] => True
  | c :: ks => ¬ mj_cnd .eq x c = true ∧ sw_no x ks
theorem sw_no_spec {x : Int32} : ∀ {ks : List Int32}, sw_no x ks → ks.contains x = false := by
  intro ks
  induction ks with
  | nil => intro _; rfl
  | cons c ks ih =>
    intro hh
    have h1 : ¬ x = c := fun he => hh.1 (mj_cnd_eq.mpr he)
    rw [List.contains_cons, ih hh.2]
    simpa using h1
theorem sw_tdef {pc : Nat} {x : Int32} {lo hi d : Int} {offs : Array Int} {S : List Value} {t : Nat} (ks : List Int32) (hk : (List.range offs.size).all (fun k => offs[k]? == some d || ks.contains (Int32.ofInt (lo + (k : Int)))) = true) (hs : decide (hi < lo + (offs.size : Int)) = true) (ht : mj_to pc d = some t) (hx : sw_no x ks) : mj_br pc (.tableswitch d lo hi offs) (.int x :: S) = some (t, S) := by
  show mj_tsw pc d lo hi offs (.int x :: S) = _
  unfold mj_tsw
  dsimp only
  split
  · rw [ht]; rfl
  · rename_i hn
    have hs := of_decide_eq_true hs
    have h0 : lo ≤ x.toInt ∧ x.toInt ≤ hi := by omega
    have h1 : (x.toInt - lo).toNat < offs.size := by omega
    have h2 := List.all_eq_true.mp hk _ (List.mem_range.mpr h1)
    have h3 : lo + ((x.toInt - lo).toNat : Int) = x.toInt := by omega
    rw [h3, Int32.ofInt_toInt, sw_no_spec hx, Bool.or_false] at h2
    have h4 : offs[(x.toInt - lo).toNat]? = some d := by simpa using h2
    rw [h4]
    dsimp only
    rw [ht]; rfl
section RB
variable {pre post : mj_H} {m : Nat} {i : Nat → Int32} {l : Nat → Int64} {I : Nat → Nat → Int32} {J : Nat → Nat → Int64} {T : mj_T} {xt : mj_X} {tl : List (FieldType × Nat)} {ini : Bool} {S : List Value}
theorem r_putb {x k : Nat} {v : Int32} (hb : v = 0 ∨ v = 1) (hm : pre.length = m) (h2 : 2 ≤ m) (hx : T.1 x = some (12, k, .boolean, 0)) (hk : k < (rF m i l).length) (he : (rF m i l).set k (.int v) = rF m (upd i k v) l) : mj_hp T xt tl 2 ini (.putfield x) (.int v :: .ref m :: S) (rH pre post m i l I J) = some (S, rH pre post m (upd i k v) l I J) := r_put hm h2 hx hk (by rcases hb with rfl | rfl <;> rfl) rfl he
theorem r_bald {j : Int32} {p t n : Nat} {f : Nat → Int32} (hm : pre.length = m) (h2 : 2 ≤ m) (he : (rC m i l I J)[p]? = some (.inl (t, n, .inl f))) {z : Nat} (ht : tl[t]? = some (.byte, z)) (hj : ¬ (j < 0 ∨ n ≤ j.toNatClampNeg)) : mj_hp T xt tl 2 ini .baload (.int j :: .ref (m + p) :: S) (rH pre post m i l I J) = some (.int (f j.toNatClampNeg) :: S, rH pre post m i l I J) := by
  unfold mj_hp mj_ald
  have h3 : ¬ m + p < 2 := by omega
  simp only [h3, rH_at hm he, hj, ht, if_false]
theorem r_zald {j : Int32} {p t n : Nat} {f : Nat → Int32} (hm : pre.length = m) (h2 : 2 ≤ m) (he : (rC m i l I J)[p]? = some (.inl (t, n, .inl f))) {z : Nat} (ht : tl[t]? = some (.boolean, z)) (hj : ¬ (j < 0 ∨ n ≤ j.toNatClampNeg)) : mj_hp T xt tl 2 ini .baload (.int j :: .ref (m + p) :: S) (rH pre post m i l I J) = some (.int (f j.toNatClampNeg) :: S, rH pre post m i l I J) := by
  unfold mj_hp mj_ald
  have h3 : ¬ m + p < 2 := by omega
  simp only [h3, rH_at hm he, hj, ht, if_false]
theorem r_bastk {k : Nat} {j v : Int32} {p t n : Nat} (hm : pre.length = m) (h2 : 2 ≤ m) (he : (rC m i l I J)[p]? = some (.inl (t, n, .inl (I k)))) {z : Nat} (ht : tl[t]? = some (.byte, z)) (hj : ¬ (j < 0 ∨ n ≤ j.toNatClampNeg)) (hs : (rC m i l I J).set p (.inl (t, n, .inl (upd (I k) j.toNatClampNeg (vp_nar .byte v)))) = rC m i l (va_up I k (upd (I k) j.toNatClampNeg (vp_nar .byte v))) J) : mj_hp T xt tl 2 ini .bastore (.int v :: .int j :: .ref (m + p) :: S) (rH pre post m i l I J) = some (S, rH pre post m i l (va_up I k (upd (I k) j.toNatClampNeg (vp_nar .byte v))) J) := by
  unfold mj_hp mj_ast
  have h3 : ¬ m + p < 2 := by omega
  simp only [h3, rH_at hm he, hj, ht, if_false]
  rw [rH_set hm (List.getElem?_eq_some_iff.mp he).1, hs]
  rfl
theorem r_zastk {k : Nat} {j v : Int32} {p t n : Nat} (hm : pre.length = m) (h2 : 2 ≤ m) (he : (rC m i l I J)[p]? = some (.inl (t, n, .inl (I k)))) {z : Nat} (ht : tl[t]? = some (.boolean, z)) (hj : ¬ (j < 0 ∨ n ≤ j.toNatClampNeg)) (hs : (rC m i l I J).set p (.inl (t, n, .inl (upd (I k) j.toNatClampNeg (vp_nar .boolean v)))) = rC m i l (va_up I k (upd (I k) j.toNatClampNeg (vp_nar .boolean v))) J) : mj_hp T xt tl 2 ini .bastore (.int v :: .int j :: .ref (m + p) :: S) (rH pre post m i l I J) = some (S, rH pre post m i l (va_up I k (upd (I k) j.toNatClampNeg (vp_nar .boolean v))) J) := by
  unfold mj_hp mj_ast
  have h3 : ¬ m + p < 2 := by omega
  simp only [h3, rH_at hm he, hj, ht, if_false]
  rw [rH_set hm (List.getElem?_eq_some_iff.mp he).1, hs]
  rfl
end RB
theorem mj_retb {x : Int32} (hb : x = 0 ∨ x = 1) : mj_ret (some .boolean) .ireturn [.int x] = some (some (.int x)) := by
  show (if x = 0 ∨ x = 1 then some (some (Value.int x)) else none) = _
  rw [if_pos hb]
theorem sw_off {x : Int32} {d : Int} : ∀ {ps : List (Int × Int)} {ks : List Int32}, ks.map Int32.toInt = ps.map Prod.fst → sw_no x ks → Op.lookupswitch.offset ps d x.toInt = d := by
  intro ps
  induction ps with
  | nil => intro ks _ _; rfl
  | cons q ps ih =>
    intro ks hk hx
    cases ks with
    | nil => cases hk
    | cons c ks =>
      rw [List.map_cons, List.map_cons] at hk
      injection hk with h1 h2
      obtain ⟨a, o⟩ := q
      rw [lv_osw (k := c) (fun he => hx.1 (mj_cnd_eq.mpr he)) h1]
      exact ih h2 hx.2
theorem sw_ldef {pc : Nat} {x : Int32} {d : Int} {ps : Array (Int × Int)} {S : List Value} {t : Nat} (ks : List Int32) (hk : ks.map Int32.toInt = ps.toList.map Prod.fst) (hs : (ps.toList.zip (ps.toList.drop 1)).all (fun (a, next) => a.1 < next.1) = true) (ht : mj_to pc d = some t) (hx : sw_no x ks) : mj_br pc (.lookupswitch d ps) (.int x :: S) = some (t, S) := by
  show mj_lsw pc d ps (.int x :: S) = _
  unfold mj_lsw
  dsimp only
  rw [if_pos hs, sw_off hk hx, ht]
  rfl
