/-! printed by wip/refgen.py: the reference as numbers: ints i, longs l, arrays I, J, by the numbers of its fields -/
def rF (m : Nat) (i : Nat → Int32) (l : Nat → Int64) : List Value := [.ref (m + 1), .ref (m + 2), .ref (m + 3), .int (i 3), .int (i 4), .int (i 5), .int (i 6), .int (i 7), .int (i 8), .int (i 9), .int (i 10), .int (i 11), .ref (m + 4), .int (i 13), .ref (m + 5), .ref (m + 6), .ref (m + 7), .int (i 17), .int (i 18), .ref (m + 8), .ref (m + 9), .ref (m + 10), .ref (m + 11), .int (i 23), .int (i 24), .ref (m + 12), .ref (m + 13), .ref (m + 14), .ref (m + 15), .ref (m + 16), .int (i 30), .int (i 31), .ref (m + 17), .int (i 33), .int (i 34), .int (i 35), .int (i 36), .int (i 37), .int (i 38), .int (i 39), .int (i 40), .long (l 41), .long (l 42), .ref (m + 18), .ref (m + 19), .ref (m + 20), .ref (m + 21), .ref (m + 22), .ref (m + 23), .ref (m + 24), .int (i 50), .int (i 51), .int (i 52), .int (i 53), .int (i 54), .int (i 55), .long (l 56), .int (i 57), .int (i 58), .int (i 59)]
def rC (m : Nat) (i : Nat → Int32) (l : Nat → Int64) (I : Nat → Nat → Int32) (J : Nat → Nat → Int64) : List mj_E := [.inr (12, rF m i l), .inl (1, 820000, .inr (.inl (J 0))), .inl (0, 310000, .inl (I 1)), .inl (0, 310000, .inl (I 2)), .inl (0, 8192, .inl (I 12)), .inl (0, 260, .inl (I 14)), .inl (2, 400, .inl (I 15)), .inl (2, 400, .inl (I 16)), .inl (1, 40, .inr (.inl (J 19))), .inl (1, 40, .inr (.inl (J 20))), .inl (0, 40, .inl (I 21)), .inl (0, 40, .inl (I 22)), .inl (1, 320, .inr (.inl (J 25))), .inl (0, 320, .inl (I 26)), .inl (0, 4, .inl (I 27)), .inl (0, 4, .inl (I 28)), .inl (3, 4, .inl (I 29)), .inl (2, 220, .inl (I 32)), .inl (0, 84000, .inl (I 43)), .inl (0, 84000, .inl (I 44)), .inl (0, 84000, .inl (I 45)), .inl (0, 84000, .inl (I 46)), .inl (0, 84000, .inl (I 47)), .inl (0, 84000, .inl (I 48)), .inl (1, 84000, .inr (.inl (J 49)))]
def rH (pre post : mj_H) (m : Nat) (i : Nat → Int32) (l : Nat → Int64) (I : Nat → Nat → Int32) (J : Nat → Nat → Int64) : mj_H := pre ++ (rC m i l I J ++ post)
section RH
variable {pre post : mj_H} {m : Nat} {i : Nat → Int32} {l : Nat → Int64} {I : Nat → Nat → Int32} {J : Nat → Nat → Int64} {T : mj_T} {xt : mj_X} {tl : List (FieldType × Nat)} {ini : Bool} {S : List Value}
theorem rC_len : (rC m i l I J).length = 25 := rfl
theorem rH_at (hm : pre.length = m) {p : Nat} {e : mj_E} (he : (rC m i l I J)[p]? = some e) : (rH pre post m i l I J)[m + p]? = some e := by
  have hp : p < (rC m i l I J).length := (List.getElem?_eq_some_iff.mp he).1
  unfold rH
  rw [List.getElem?_append_right (by omega), hm, Nat.add_sub_cancel_left, List.getElem?_append_left hp]
  exact he
theorem rH_obj (hm : pre.length = m) : (rH pre post m i l I J)[m]? = some (.inr (12, rF m i l)) := rH_at (p := 0) hm rfl
theorem rH_set (hm : pre.length = m) {p : Nat} (hp : p < (rC m i l I J).length) (e : mj_E) : (rH pre post m i l I J).set (m + p) e = pre ++ ((rC m i l I J).set p e ++ post) := by
  unfold rH
  rw [List.set_append_right _ _ (by omega), hm, Nat.add_sub_cancel_left, List.set_append_left _ _ hp]
theorem r_get {x k fin : Nat} {ty : FieldType} {v : Value} (hm : pre.length = m) (h2 : 2 ≤ m) (hx : T.1 x = some (12, k, ty, fin)) (hv : (rF m i l)[k]? = some v) : mj_hp T xt tl 2 ini (.getfield x) (.ref m :: S) (rH pre post m i l I J) = some (v :: S, rH pre post m i l I J) := by
  unfold mj_hp mj_gf
  simp only [hx, rH_obj hm, h2, and_self, if_true, hv, Option.map_some]
theorem r_put {x k fin : Nat} {ty : FieldType} {v : Value} {i' : Nat → Int32} {l' : Nat → Int64} (hm : pre.length = m) (h2 : 2 ≤ m) (hx : T.1 x = some (12, k, ty, fin)) (hk : k < (rF m i l).length) (hf : mj_fit ty v = true) (h0 : fin = 0) (he : (rF m i l).set k v = rF m i' l') : mj_hp T xt tl 2 ini (.putfield x) (v :: .ref m :: S) (rH pre post m i l I J) = some (S, rH pre post m i' l' I J) := by
  unfold mj_hp mj_pf
  simp only [hx, rH_obj hm, hk, h2, hf, h0, he]
  rw [if_pos ⟨trivial, trivial, trivial, trivial, by decide, fun z => by cases z⟩]
  have h1 := rH_set (post := post) (i := i) (l := l) (I := I) (J := J) hm (p := 0) (by rw [rC_len]; decide) (.inr (12, rF m i' l'))
  rw [Nat.add_zero] at h1
  rw [h1]
  rfl
theorem r_puti {x k : Nat} {v : Int32} (hm : pre.length = m) (h2 : 2 ≤ m) (hx : T.1 x = some (12, k, .int, 0)) (hk : k < (rF m i l).length) (he : (rF m i l).set k (.int v) = rF m (upd i k v) l) : mj_hp T xt tl 2 ini (.putfield x) (.int v :: .ref m :: S) (rH pre post m i l I J) = some (S, rH pre post m (upd i k v) l I J) := r_put hm h2 hx hk rfl rfl he
theorem r_putl {x k : Nat} {v : Int64} (hm : pre.length = m) (h2 : 2 ≤ m) (hx : T.1 x = some (12, k, .long, 0)) (hk : k < (rF m i l).length) (he : (rF m i l).set k (.long v) = rF m i (vp_updL l k v)) : mj_hp T xt tl 2 ini (.putfield x) (.long v :: .ref m :: S) (rH pre post m i l I J) = some (S, rH pre post m i (vp_updL l k v) I J) := r_put hm h2 hx hk rfl rfl he
theorem r_iald {j : Int32} {p t n : Nat} {f : Nat → Int32} (hm : pre.length = m) (h2 : 2 ≤ m) (he : (rC m i l I J)[p]? = some (.inl (t, n, .inl f))) {z : Nat} (ht : tl[t]? = some (.int, z)) (hj : ¬ (j < 0 ∨ n ≤ j.toNatClampNeg)) : mj_hp T xt tl 2 ini .iaload (.int j :: .ref (m + p) :: S) (rH pre post m i l I J) = some (.int (f j.toNatClampNeg) :: S, rH pre post m i l I J) := by
  unfold mj_hp mj_ald
  have h3 : ¬ m + p < 2 := by omega
  simp only [h3, rH_at hm he, hj, ht, if_false]
theorem r_lald {j : Int32} {p t n : Nat} {f : Nat → Int64} (hm : pre.length = m) (h2 : 2 ≤ m) (he : (rC m i l I J)[p]? = some (.inl (t, n, .inr (.inl f)))) {z : Nat} (ht : tl[t]? = some (.long, z)) (hj : ¬ (j < 0 ∨ n ≤ j.toNatClampNeg)) : mj_hp T xt tl 2 ini .laload (.int j :: .ref (m + p) :: S) (rH pre post m i l I J) = some (.long (f j.toNatClampNeg) :: S, rH pre post m i l I J) := by
  unfold mj_hp mj_ald
  have h3 : ¬ m + p < 2 := by omega
  simp only [h3, rH_at hm he, hj, ht, if_false]
theorem r_iast {j v : Int32} {p t n : Nat} {f : Nat → Int32} {I' : Nat → Nat → Int32} (hm : pre.length = m) (h2 : 2 ≤ m) (he : (rC m i l I J)[p]? = some (.inl (t, n, .inl f))) {z : Nat} (ht : tl[t]? = some (.int, z)) (hj : ¬ (j < 0 ∨ n ≤ j.toNatClampNeg)) (hs : (rC m i l I J).set p (.inl (t, n, .inl (upd f j.toNatClampNeg v))) = rC m i l I' J) : mj_hp T xt tl 2 ini .iastore (.int v :: .int j :: .ref (m + p) :: S) (rH pre post m i l I J) = some (S, rH pre post m i l I' J) := by
  unfold mj_hp mj_ast
  have h3 : ¬ m + p < 2 := by omega
  simp only [h3, rH_at hm he, hj, ht, if_false]
  rw [rH_set hm (List.getElem?_eq_some_iff.mp he).1, hs]
  rfl
theorem r_last {j : Int32} {v : Int64} {p t n : Nat} {f : Nat → Int64} {J' : Nat → Nat → Int64} (hm : pre.length = m) (h2 : 2 ≤ m) (he : (rC m i l I J)[p]? = some (.inl (t, n, .inr (.inl f)))) {z : Nat} (ht : tl[t]? = some (.long, z)) (hj : ¬ (j < 0 ∨ n ≤ j.toNatClampNeg)) (hs : (rC m i l I J).set p (.inl (t, n, .inr (.inl (vp_updL f j.toNatClampNeg v)))) = rC m i l I J') : mj_hp T xt tl 2 ini .lastore (.long v :: .int j :: .ref (m + p) :: S) (rH pre post m i l I J) = some (S, rH pre post m i l I J') := by
  unfold mj_hp mj_ast
  have h3 : ¬ m + p < 2 := by omega
  simp only [h3, rH_at hm he, hj, ht, if_false]
  rw [rH_set hm (List.getElem?_eq_some_iff.mp he).1, hs]
  rfl
theorem r_iastk {k : Nat} {j v : Int32} {p t n : Nat} (hm : pre.length = m) (h2 : 2 ≤ m) (he : (rC m i l I J)[p]? = some (.inl (t, n, .inl (I k)))) {z : Nat} (ht : tl[t]? = some (.int, z)) (hj : ¬ (j < 0 ∨ n ≤ j.toNatClampNeg)) (hs : (rC m i l I J).set p (.inl (t, n, .inl (upd (I k) j.toNatClampNeg v))) = rC m i l (va_up I k (upd (I k) j.toNatClampNeg v)) J) : mj_hp T xt tl 2 ini .iastore (.int v :: .int j :: .ref (m + p) :: S) (rH pre post m i l I J) = some (S, rH pre post m i l (va_up I k (upd (I k) j.toNatClampNeg v)) J) := r_iast hm h2 he ht hj hs
theorem r_lastk {k : Nat} {j : Int32} {v : Int64} {p t n : Nat} (hm : pre.length = m) (h2 : 2 ≤ m) (he : (rC m i l I J)[p]? = some (.inl (t, n, .inr (.inl (J k))))) {z : Nat} (ht : tl[t]? = some (.long, z)) (hj : ¬ (j < 0 ∨ n ≤ j.toNatClampNeg)) (hs : (rC m i l I J).set p (.inl (t, n, .inr (.inl (vp_updL (J k) j.toNatClampNeg v)))) = rC m i l I (va_up J k (vp_updL (J k) j.toNatClampNeg v))) : mj_hp T xt tl 2 ini .lastore (.long v :: .int j :: .ref (m + p) :: S) (rH pre post m i l I J) = some (S, rH pre post m i l I (va_up J k (vp_updL (J k) j.toNatClampNeg v))) := r_last hm h2 he ht hj hs
theorem r_inv {mt : mj_C} {x k nn : Nat} {As : List Value} (hm : pre.length = m) (h2 : 2 ≤ m) (hx : mt x = some (1, k, nn, 12)) (hl : As.length = nn) (hr : mj_room S = true) : mj_inv mt 2 (.invokevirtual x) (As.reverse ++ .ref m :: S) (rH pre post m i l I J) = some (k + 1, .ref m :: As, S) := by
  unfold mj_inv
  have e1 : (As.reverse ++ Value.ref m :: S).drop nn = .ref m :: S := by rw [List.drop_append, ← hl, ← List.length_reverse, List.drop_length, Nat.sub_self]; rfl
  have e2 : (As.reverse ++ Value.ref m :: S).take nn = As.reverse := by rw [List.take_append, ← hl, ← List.length_reverse, List.take_length, Nat.sub_self]; simp
  simp only [hx, e1, e2, rH_obj hm, h2, hr, and_self, if_true, List.reverse_reverse]
theorem r_invs {mt : mj_C} {c0 x k nn ci : Nat} {As : List Value} {h : mj_H} (hx : mt x = some (2, k, nn, ci)) (hl : As.length = nn) (hr : mj_room S = true) : mj_inv mt c0 (.invokestatic x) (As.reverse ++ S) h = some (k + 1, As, S) := by
  unfold mj_inv
  have e1 : (As.reverse ++ S).drop nn = S := by rw [List.drop_append, ← hl, ← List.length_reverse, List.drop_length, Nat.sub_self]; rfl
  have e2 : (As.reverse ++ S).take nn = As.reverse := by rw [List.take_append, ← hl, ← List.length_reverse, List.take_length, Nat.sub_self]; simp
  have e3 : nn ≤ (As.reverse ++ S).length := by rw [List.length_append, List.length_reverse]; omega
  simp only [hx, e1, e2, e3, hr, and_self, if_true, List.reverse_reverse]
end RH
theorem rg_0 (m : Nat) (i : Nat → Int32) (l : Nat → Int64) : (rF m i l)[0]? = some (.ref (m + 1)) := rfl
theorem rc_0 (m : Nat) (i : Nat → Int32) (l : Nat → Int64) (I : Nat → Nat → Int32) (J : Nat → Nat → Int64) : (rC m i l I J)[1]? = some (.inl (1, 820000, .inr (.inl (J 0)))) := rfl
theorem rs_0 (m : Nat) (i : Nat → Int32) (l : Nat → Int64) (I : Nat → Nat → Int32) (J : Nat → Nat → Int64) (f : Nat → Int64) : (rC m i l I J).set 1 (.inl (1, 820000, .inr (.inl f))) = rC m i l I (va_up J 0 f) := rfl
theorem rg_1 (m : Nat) (i : Nat → Int32) (l : Nat → Int64) : (rF m i l)[1]? = some (.ref (m + 2)) := rfl
theorem rc_1 (m : Nat) (i : Nat → Int32) (l : Nat → Int64) (I : Nat → Nat → Int32) (J : Nat → Nat → Int64) : (rC m i l I J)[2]? = some (.inl (0, 310000, .inl (I 1))) := rfl
theorem rs_1 (m : Nat) (i : Nat → Int32) (l : Nat → Int64) (I : Nat → Nat → Int32) (J : Nat → Nat → Int64) (f : Nat → Int32) : (rC m i l I J).set 2 (.inl (0, 310000, .inl f)) = rC m i l (va_up I 1 f) J := rfl
theorem rg_2 (m : Nat) (i : Nat → Int32) (l : Nat → Int64) : (rF m i l)[2]? = some (.ref (m + 3)) := rfl
theorem rc_2 (m : Nat) (i : Nat → Int32) (l : Nat → Int64) (I : Nat → Nat → Int32) (J : Nat → Nat → Int64) : (rC m i l I J)[3]? = some (.inl (0, 310000, .inl (I 2))) := rfl
theorem rs_2 (m : Nat) (i : Nat → Int32) (l : Nat → Int64) (I : Nat → Nat → Int32) (J : Nat → Nat → Int64) (f : Nat → Int32) : (rC m i l I J).set 3 (.inl (0, 310000, .inl f)) = rC m i l (va_up I 2 f) J := rfl
theorem rg_3 (m : Nat) (i : Nat → Int32) (l : Nat → Int64) : (rF m i l)[3]? = some (.int (i 3)) := rfl
theorem rf_3 (m : Nat) (i : Nat → Int32) (l : Nat → Int64) (v : Int32) : (rF m i l).set 3 (.int v) = rF m (upd i 3 v) l := rfl
theorem rg_4 (m : Nat) (i : Nat → Int32) (l : Nat → Int64) : (rF m i l)[4]? = some (.int (i 4)) := rfl
theorem rf_4 (m : Nat) (i : Nat → Int32) (l : Nat → Int64) (v : Int32) : (rF m i l).set 4 (.int v) = rF m (upd i 4 v) l := rfl
theorem rg_5 (m : Nat) (i : Nat → Int32) (l : Nat → Int64) : (rF m i l)[5]? = some (.int (i 5)) := rfl
theorem rf_5 (m : Nat) (i : Nat → Int32) (l : Nat → Int64) (v : Int32) : (rF m i l).set 5 (.int v) = rF m (upd i 5 v) l := rfl
theorem rg_6 (m : Nat) (i : Nat → Int32) (l : Nat → Int64) : (rF m i l)[6]? = some (.int (i 6)) := rfl
theorem rf_6 (m : Nat) (i : Nat → Int32) (l : Nat → Int64) (v : Int32) : (rF m i l).set 6 (.int v) = rF m (upd i 6 v) l := rfl
theorem rg_7 (m : Nat) (i : Nat → Int32) (l : Nat → Int64) : (rF m i l)[7]? = some (.int (i 7)) := rfl
theorem rf_7 (m : Nat) (i : Nat → Int32) (l : Nat → Int64) (v : Int32) : (rF m i l).set 7 (.int v) = rF m (upd i 7 v) l := rfl
theorem rg_8 (m : Nat) (i : Nat → Int32) (l : Nat → Int64) : (rF m i l)[8]? = some (.int (i 8)) := rfl
theorem rf_8 (m : Nat) (i : Nat → Int32) (l : Nat → Int64) (v : Int32) : (rF m i l).set 8 (.int v) = rF m (upd i 8 v) l := rfl
theorem rg_9 (m : Nat) (i : Nat → Int32) (l : Nat → Int64) : (rF m i l)[9]? = some (.int (i 9)) := rfl
theorem rf_9 (m : Nat) (i : Nat → Int32) (l : Nat → Int64) (v : Int32) : (rF m i l).set 9 (.int v) = rF m (upd i 9 v) l := rfl
theorem rg_10 (m : Nat) (i : Nat → Int32) (l : Nat → Int64) : (rF m i l)[10]? = some (.int (i 10)) := rfl
theorem rf_10 (m : Nat) (i : Nat → Int32) (l : Nat → Int64) (v : Int32) : (rF m i l).set 10 (.int v) = rF m (upd i 10 v) l := rfl
theorem rg_11 (m : Nat) (i : Nat → Int32) (l : Nat → Int64) : (rF m i l)[11]? = some (.int (i 11)) := rfl
theorem rf_11 (m : Nat) (i : Nat → Int32) (l : Nat → Int64) (v : Int32) : (rF m i l).set 11 (.int v) = rF m (upd i 11 v) l := rfl
theorem rg_12 (m : Nat) (i : Nat → Int32) (l : Nat → Int64) : (rF m i l)[12]? = some (.ref (m + 4)) := rfl
theorem rc_12 (m : Nat) (i : Nat → Int32) (l : Nat → Int64) (I : Nat → Nat → Int32) (J : Nat → Nat → Int64) : (rC m i l I J)[4]? = some (.inl (0, 8192, .inl (I 12))) := rfl
theorem rs_12 (m : Nat) (i : Nat → Int32) (l : Nat → Int64) (I : Nat → Nat → Int32) (J : Nat → Nat → Int64) (f : Nat → Int32) : (rC m i l I J).set 4 (.inl (0, 8192, .inl f)) = rC m i l (va_up I 12 f) J := rfl
theorem rg_13 (m : Nat) (i : Nat → Int32) (l : Nat → Int64) : (rF m i l)[13]? = some (.int (i 13)) := rfl
theorem rf_13 (m : Nat) (i : Nat → Int32) (l : Nat → Int64) (v : Int32) : (rF m i l).set 13 (.int v) = rF m (upd i 13 v) l := rfl
theorem rg_14 (m : Nat) (i : Nat → Int32) (l : Nat → Int64) : (rF m i l)[14]? = some (.ref (m + 5)) := rfl
theorem rc_14 (m : Nat) (i : Nat → Int32) (l : Nat → Int64) (I : Nat → Nat → Int32) (J : Nat → Nat → Int64) : (rC m i l I J)[5]? = some (.inl (0, 260, .inl (I 14))) := rfl
theorem rs_14 (m : Nat) (i : Nat → Int32) (l : Nat → Int64) (I : Nat → Nat → Int32) (J : Nat → Nat → Int64) (f : Nat → Int32) : (rC m i l I J).set 5 (.inl (0, 260, .inl f)) = rC m i l (va_up I 14 f) J := rfl
theorem rg_15 (m : Nat) (i : Nat → Int32) (l : Nat → Int64) : (rF m i l)[15]? = some (.ref (m + 6)) := rfl
theorem rc_15 (m : Nat) (i : Nat → Int32) (l : Nat → Int64) (I : Nat → Nat → Int32) (J : Nat → Nat → Int64) : (rC m i l I J)[6]? = some (.inl (2, 400, .inl (I 15))) := rfl
theorem rs_15 (m : Nat) (i : Nat → Int32) (l : Nat → Int64) (I : Nat → Nat → Int32) (J : Nat → Nat → Int64) (f : Nat → Int32) : (rC m i l I J).set 6 (.inl (2, 400, .inl f)) = rC m i l (va_up I 15 f) J := rfl
theorem rg_16 (m : Nat) (i : Nat → Int32) (l : Nat → Int64) : (rF m i l)[16]? = some (.ref (m + 7)) := rfl
theorem rc_16 (m : Nat) (i : Nat → Int32) (l : Nat → Int64) (I : Nat → Nat → Int32) (J : Nat → Nat → Int64) : (rC m i l I J)[7]? = some (.inl (2, 400, .inl (I 16))) := rfl
theorem rs_16 (m : Nat) (i : Nat → Int32) (l : Nat → Int64) (I : Nat → Nat → Int32) (J : Nat → Nat → Int64) (f : Nat → Int32) : (rC m i l I J).set 7 (.inl (2, 400, .inl f)) = rC m i l (va_up I 16 f) J := rfl
theorem rg_17 (m : Nat) (i : Nat → Int32) (l : Nat → Int64) : (rF m i l)[17]? = some (.int (i 17)) := rfl
theorem rf_17 (m : Nat) (i : Nat → Int32) (l : Nat → Int64) (v : Int32) : (rF m i l).set 17 (.int v) = rF m (upd i 17 v) l := rfl
theorem rg_18 (m : Nat) (i : Nat → Int32) (l : Nat → Int64) : (rF m i l)[18]? = some (.int (i 18)) := rfl
theorem rf_18 (m : Nat) (i : Nat → Int32) (l : Nat → Int64) (v : Int32) : (rF m i l).set 18 (.int v) = rF m (upd i 18 v) l := rfl
theorem rg_19 (m : Nat) (i : Nat → Int32) (l : Nat → Int64) : (rF m i l)[19]? = some (.ref (m + 8)) := rfl
theorem rc_19 (m : Nat) (i : Nat → Int32) (l : Nat → Int64) (I : Nat → Nat → Int32) (J : Nat → Nat → Int64) : (rC m i l I J)[8]? = some (.inl (1, 40, .inr (.inl (J 19)))) := rfl
theorem rs_19 (m : Nat) (i : Nat → Int32) (l : Nat → Int64) (I : Nat → Nat → Int32) (J : Nat → Nat → Int64) (f : Nat → Int64) : (rC m i l I J).set 8 (.inl (1, 40, .inr (.inl f))) = rC m i l I (va_up J 19 f) := rfl
theorem rg_20 (m : Nat) (i : Nat → Int32) (l : Nat → Int64) : (rF m i l)[20]? = some (.ref (m + 9)) := rfl
theorem rc_20 (m : Nat) (i : Nat → Int32) (l : Nat → Int64) (I : Nat → Nat → Int32) (J : Nat → Nat → Int64) : (rC m i l I J)[9]? = some (.inl (1, 40, .inr (.inl (J 20)))) := rfl
theorem rs_20 (m : Nat) (i : Nat → Int32) (l : Nat → Int64) (I : Nat → Nat → Int32) (J : Nat → Nat → Int64) (f : Nat → Int64) : (rC m i l I J).set 9 (.inl (1, 40, .inr (.inl f))) = rC m i l I (va_up J 20 f) := rfl
theorem rg_21 (m : Nat) (i : Nat → Int32) (l : Nat → Int64) : (rF m i l)[21]? = some (.ref (m + 10)) := rfl
theorem rc_21 (m : Nat) (i : Nat → Int32) (l : Nat → Int64) (I : Nat → Nat → Int32) (J : Nat → Nat → Int64) : (rC m i l I J)[10]? = some (.inl (0, 40, .inl (I 21))) := rfl
theorem rs_21 (m : Nat) (i : Nat → Int32) (l : Nat → Int64) (I : Nat → Nat → Int32) (J : Nat → Nat → Int64) (f : Nat → Int32) : (rC m i l I J).set 10 (.inl (0, 40, .inl f)) = rC m i l (va_up I 21 f) J := rfl
theorem rg_22 (m : Nat) (i : Nat → Int32) (l : Nat → Int64) : (rF m i l)[22]? = some (.ref (m + 11)) := rfl
theorem rc_22 (m : Nat) (i : Nat → Int32) (l : Nat → Int64) (I : Nat → Nat → Int32) (J : Nat → Nat → Int64) : (rC m i l I J)[11]? = some (.inl (0, 40, .inl (I 22))) := rfl
theorem rs_22 (m : Nat) (i : Nat → Int32) (l : Nat → Int64) (I : Nat → Nat → Int32) (J : Nat → Nat → Int64) (f : Nat → Int32) : (rC m i l I J).set 11 (.inl (0, 40, .inl f)) = rC m i l (va_up I 22 f) J := rfl
theorem rg_23 (m : Nat) (i : Nat → Int32) (l : Nat → Int64) : (rF m i l)[23]? = some (.int (i 23)) := rfl
theorem rf_23 (m : Nat) (i : Nat → Int32) (l : Nat → Int64) (v : Int32) : (rF m i l).set 23 (.int v) = rF m (upd i 23 v) l := rfl
theorem rg_24 (m : Nat) (i : Nat → Int32) (l : Nat → Int64) : (rF m i l)[24]? = some (.int (i 24)) := rfl
theorem rf_24 (m : Nat) (i : Nat → Int32) (l : Nat → Int64) (v : Int32) : (rF m i l).set 24 (.int v) = rF m (upd i 24 v) l := rfl
theorem rg_25 (m : Nat) (i : Nat → Int32) (l : Nat → Int64) : (rF m i l)[25]? = some (.ref (m + 12)) := rfl
theorem rc_25 (m : Nat) (i : Nat → Int32) (l : Nat → Int64) (I : Nat → Nat → Int32) (J : Nat → Nat → Int64) : (rC m i l I J)[12]? = some (.inl (1, 320, .inr (.inl (J 25)))) := rfl
theorem rs_25 (m : Nat) (i : Nat → Int32) (l : Nat → Int64) (I : Nat → Nat → Int32) (J : Nat → Nat → Int64) (f : Nat → Int64) : (rC m i l I J).set 12 (.inl (1, 320, .inr (.inl f))) = rC m i l I (va_up J 25 f) := rfl
theorem rg_26 (m : Nat) (i : Nat → Int32) (l : Nat → Int64) : (rF m i l)[26]? = some (.ref (m + 13)) := rfl
theorem rc_26 (m : Nat) (i : Nat → Int32) (l : Nat → Int64) (I : Nat → Nat → Int32) (J : Nat → Nat → Int64) : (rC m i l I J)[13]? = some (.inl (0, 320, .inl (I 26))) := rfl
theorem rs_26 (m : Nat) (i : Nat → Int32) (l : Nat → Int64) (I : Nat → Nat → Int32) (J : Nat → Nat → Int64) (f : Nat → Int32) : (rC m i l I J).set 13 (.inl (0, 320, .inl f)) = rC m i l (va_up I 26 f) J := rfl
theorem rg_27 (m : Nat) (i : Nat → Int32) (l : Nat → Int64) : (rF m i l)[27]? = some (.ref (m + 14)) := rfl
theorem rc_27 (m : Nat) (i : Nat → Int32) (l : Nat → Int64) (I : Nat → Nat → Int32) (J : Nat → Nat → Int64) : (rC m i l I J)[14]? = some (.inl (0, 4, .inl (I 27))) := rfl
theorem rs_27 (m : Nat) (i : Nat → Int32) (l : Nat → Int64) (I : Nat → Nat → Int32) (J : Nat → Nat → Int64) (f : Nat → Int32) : (rC m i l I J).set 14 (.inl (0, 4, .inl f)) = rC m i l (va_up I 27 f) J := rfl
theorem rg_28 (m : Nat) (i : Nat → Int32) (l : Nat → Int64) : (rF m i l)[28]? = some (.ref (m + 15)) := rfl
theorem rc_28 (m : Nat) (i : Nat → Int32) (l : Nat → Int64) (I : Nat → Nat → Int32) (J : Nat → Nat → Int64) : (rC m i l I J)[15]? = some (.inl (0, 4, .inl (I 28))) := rfl
theorem rs_28 (m : Nat) (i : Nat → Int32) (l : Nat → Int64) (I : Nat → Nat → Int32) (J : Nat → Nat → Int64) (f : Nat → Int32) : (rC m i l I J).set 15 (.inl (0, 4, .inl f)) = rC m i l (va_up I 28 f) J := rfl
theorem rg_29 (m : Nat) (i : Nat → Int32) (l : Nat → Int64) : (rF m i l)[29]? = some (.ref (m + 16)) := rfl
theorem rc_29 (m : Nat) (i : Nat → Int32) (l : Nat → Int64) (I : Nat → Nat → Int32) (J : Nat → Nat → Int64) : (rC m i l I J)[16]? = some (.inl (3, 4, .inl (I 29))) := rfl
theorem rs_29 (m : Nat) (i : Nat → Int32) (l : Nat → Int64) (I : Nat → Nat → Int32) (J : Nat → Nat → Int64) (f : Nat → Int32) : (rC m i l I J).set 16 (.inl (3, 4, .inl f)) = rC m i l (va_up I 29 f) J := rfl
theorem rg_30 (m : Nat) (i : Nat → Int32) (l : Nat → Int64) : (rF m i l)[30]? = some (.int (i 30)) := rfl
theorem rf_30 (m : Nat) (i : Nat → Int32) (l : Nat → Int64) (v : Int32) : (rF m i l).set 30 (.int v) = rF m (upd i 30 v) l := rfl
theorem rg_31 (m : Nat) (i : Nat → Int32) (l : Nat → Int64) : (rF m i l)[31]? = some (.int (i 31)) := rfl
theorem rf_31 (m : Nat) (i : Nat → Int32) (l : Nat → Int64) (v : Int32) : (rF m i l).set 31 (.int v) = rF m (upd i 31 v) l := rfl
theorem rg_32 (m : Nat) (i : Nat → Int32) (l : Nat → Int64) : (rF m i l)[32]? = some (.ref (m + 17)) := rfl
theorem rc_32 (m : Nat) (i : Nat → Int32) (l : Nat → Int64) (I : Nat → Nat → Int32) (J : Nat → Nat → Int64) : (rC m i l I J)[17]? = some (.inl (2, 220, .inl (I 32))) := rfl
theorem rs_32 (m : Nat) (i : Nat → Int32) (l : Nat → Int64) (I : Nat → Nat → Int32) (J : Nat → Nat → Int64) (f : Nat → Int32) : (rC m i l I J).set 17 (.inl (2, 220, .inl f)) = rC m i l (va_up I 32 f) J := rfl
theorem rg_33 (m : Nat) (i : Nat → Int32) (l : Nat → Int64) : (rF m i l)[33]? = some (.int (i 33)) := rfl
theorem rf_33 (m : Nat) (i : Nat → Int32) (l : Nat → Int64) (v : Int32) : (rF m i l).set 33 (.int v) = rF m (upd i 33 v) l := rfl
theorem rg_34 (m : Nat) (i : Nat → Int32) (l : Nat → Int64) : (rF m i l)[34]? = some (.int (i 34)) := rfl
theorem rf_34 (m : Nat) (i : Nat → Int32) (l : Nat → Int64) (v : Int32) : (rF m i l).set 34 (.int v) = rF m (upd i 34 v) l := rfl
theorem rg_35 (m : Nat) (i : Nat → Int32) (l : Nat → Int64) : (rF m i l)[35]? = some (.int (i 35)) := rfl
theorem rf_35 (m : Nat) (i : Nat → Int32) (l : Nat → Int64) (v : Int32) : (rF m i l).set 35 (.int v) = rF m (upd i 35 v) l := rfl
theorem rg_36 (m : Nat) (i : Nat → Int32) (l : Nat → Int64) : (rF m i l)[36]? = some (.int (i 36)) := rfl
theorem rf_36 (m : Nat) (i : Nat → Int32) (l : Nat → Int64) (v : Int32) : (rF m i l).set 36 (.int v) = rF m (upd i 36 v) l := rfl
theorem rg_37 (m : Nat) (i : Nat → Int32) (l : Nat → Int64) : (rF m i l)[37]? = some (.int (i 37)) := rfl
theorem rf_37 (m : Nat) (i : Nat → Int32) (l : Nat → Int64) (v : Int32) : (rF m i l).set 37 (.int v) = rF m (upd i 37 v) l := rfl
theorem rg_38 (m : Nat) (i : Nat → Int32) (l : Nat → Int64) : (rF m i l)[38]? = some (.int (i 38)) := rfl
theorem rf_38 (m : Nat) (i : Nat → Int32) (l : Nat → Int64) (v : Int32) : (rF m i l).set 38 (.int v) = rF m (upd i 38 v) l := rfl
theorem rg_39 (m : Nat) (i : Nat → Int32) (l : Nat → Int64) : (rF m i l)[39]? = some (.int (i 39)) := rfl
theorem rf_39 (m : Nat) (i : Nat → Int32) (l : Nat → Int64) (v : Int32) : (rF m i l).set 39 (.int v) = rF m (upd i 39 v) l := rfl
theorem rg_40 (m : Nat) (i : Nat → Int32) (l : Nat → Int64) : (rF m i l)[40]? = some (.int (i 40)) := rfl
theorem rf_40 (m : Nat) (i : Nat → Int32) (l : Nat → Int64) (v : Int32) : (rF m i l).set 40 (.int v) = rF m (upd i 40 v) l := rfl
theorem rg_41 (m : Nat) (i : Nat → Int32) (l : Nat → Int64) : (rF m i l)[41]? = some (.long (l 41)) := rfl
theorem rf_41 (m : Nat) (i : Nat → Int32) (l : Nat → Int64) (v : Int64) : (rF m i l).set 41 (.long v) = rF m i (vp_updL l 41 v) := rfl
theorem rg_42 (m : Nat) (i : Nat → Int32) (l : Nat → Int64) : (rF m i l)[42]? = some (.long (l 42)) := rfl
theorem rf_42 (m : Nat) (i : Nat → Int32) (l : Nat → Int64) (v : Int64) : (rF m i l).set 42 (.long v) = rF m i (vp_updL l 42 v) := rfl
theorem rg_43 (m : Nat) (i : Nat → Int32) (l : Nat → Int64) : (rF m i l)[43]? = some (.ref (m + 18)) := rfl
theorem rc_43 (m : Nat) (i : Nat → Int32) (l : Nat → Int64) (I : Nat → Nat → Int32) (J : Nat → Nat → Int64) : (rC m i l I J)[18]? = some (.inl (0, 84000, .inl (I 43))) := rfl
theorem rs_43 (m : Nat) (i : Nat → Int32) (l : Nat → Int64) (I : Nat → Nat → Int32) (J : Nat → Nat → Int64) (f : Nat → Int32) : (rC m i l I J).set 18 (.inl (0, 84000, .inl f)) = rC m i l (va_up I 43 f) J := rfl
theorem rg_44 (m : Nat) (i : Nat → Int32) (l : Nat → Int64) : (rF m i l)[44]? = some (.ref (m + 19)) := rfl
theorem rc_44 (m : Nat) (i : Nat → Int32) (l : Nat → Int64) (I : Nat → Nat → Int32) (J : Nat → Nat → Int64) : (rC m i l I J)[19]? = some (.inl (0, 84000, .inl (I 44))) := rfl
theorem rs_44 (m : Nat) (i : Nat → Int32) (l : Nat → Int64) (I : Nat → Nat → Int32) (J : Nat → Nat → Int64) (f : Nat → Int32) : (rC m i l I J).set 19 (.inl (0, 84000, .inl f)) = rC m i l (va_up I 44 f) J := rfl
theorem rg_45 (m : Nat) (i : Nat → Int32) (l : Nat → Int64) : (rF m i l)[45]? = some (.ref (m + 20)) := rfl
theorem rc_45 (m : Nat) (i : Nat → Int32) (l : Nat → Int64) (I : Nat → Nat → Int32) (J : Nat → Nat → Int64) : (rC m i l I J)[20]? = some (.inl (0, 84000, .inl (I 45))) := rfl
theorem rs_45 (m : Nat) (i : Nat → Int32) (l : Nat → Int64) (I : Nat → Nat → Int32) (J : Nat → Nat → Int64) (f : Nat → Int32) : (rC m i l I J).set 20 (.inl (0, 84000, .inl f)) = rC m i l (va_up I 45 f) J := rfl
theorem rg_46 (m : Nat) (i : Nat → Int32) (l : Nat → Int64) : (rF m i l)[46]? = some (.ref (m + 21)) := rfl
theorem rc_46 (m : Nat) (i : Nat → Int32) (l : Nat → Int64) (I : Nat → Nat → Int32) (J : Nat → Nat → Int64) : (rC m i l I J)[21]? = some (.inl (0, 84000, .inl (I 46))) := rfl
theorem rs_46 (m : Nat) (i : Nat → Int32) (l : Nat → Int64) (I : Nat → Nat → Int32) (J : Nat → Nat → Int64) (f : Nat → Int32) : (rC m i l I J).set 21 (.inl (0, 84000, .inl f)) = rC m i l (va_up I 46 f) J := rfl
theorem rg_47 (m : Nat) (i : Nat → Int32) (l : Nat → Int64) : (rF m i l)[47]? = some (.ref (m + 22)) := rfl
theorem rc_47 (m : Nat) (i : Nat → Int32) (l : Nat → Int64) (I : Nat → Nat → Int32) (J : Nat → Nat → Int64) : (rC m i l I J)[22]? = some (.inl (0, 84000, .inl (I 47))) := rfl
theorem rs_47 (m : Nat) (i : Nat → Int32) (l : Nat → Int64) (I : Nat → Nat → Int32) (J : Nat → Nat → Int64) (f : Nat → Int32) : (rC m i l I J).set 22 (.inl (0, 84000, .inl f)) = rC m i l (va_up I 47 f) J := rfl
theorem rg_48 (m : Nat) (i : Nat → Int32) (l : Nat → Int64) : (rF m i l)[48]? = some (.ref (m + 23)) := rfl
theorem rc_48 (m : Nat) (i : Nat → Int32) (l : Nat → Int64) (I : Nat → Nat → Int32) (J : Nat → Nat → Int64) : (rC m i l I J)[23]? = some (.inl (0, 84000, .inl (I 48))) := rfl
theorem rs_48 (m : Nat) (i : Nat → Int32) (l : Nat → Int64) (I : Nat → Nat → Int32) (J : Nat → Nat → Int64) (f : Nat → Int32) : (rC m i l I J).set 23 (.inl (0, 84000, .inl f)) = rC m i l (va_up I 48 f) J := rfl
theorem rg_49 (m : Nat) (i : Nat → Int32) (l : Nat → Int64) : (rF m i l)[49]? = some (.ref (m + 24)) := rfl
theorem rc_49 (m : Nat) (i : Nat → Int32) (l : Nat → Int64) (I : Nat → Nat → Int32) (J : Nat → Nat → Int64) : (rC m i l I J)[24]? = some (.inl (1, 84000, .inr (.inl (J 49)))) := rfl
theorem rs_49 (m : Nat) (i : Nat → Int32) (l : Nat → Int64) (I : Nat → Nat → Int32) (J : Nat → Nat → Int64) (f : Nat → Int64) : (rC m i l I J).set 24 (.inl (1, 84000, .inr (.inl f))) = rC m i l I (va_up J 49 f) := rfl
theorem rg_50 (m : Nat) (i : Nat → Int32) (l : Nat → Int64) : (rF m i l)[50]? = some (.int (i 50)) := rfl
theorem rf_50 (m : Nat) (i : Nat → Int32) (l : Nat → Int64) (v : Int32) : (rF m i l).set 50 (.int v) = rF m (upd i 50 v) l := rfl
theorem rg_51 (m : Nat) (i : Nat → Int32) (l : Nat → Int64) : (rF m i l)[51]? = some (.int (i 51)) := rfl
theorem rf_51 (m : Nat) (i : Nat → Int32) (l : Nat → Int64) (v : Int32) : (rF m i l).set 51 (.int v) = rF m (upd i 51 v) l := rfl
theorem rg_52 (m : Nat) (i : Nat → Int32) (l : Nat → Int64) : (rF m i l)[52]? = some (.int (i 52)) := rfl
theorem rf_52 (m : Nat) (i : Nat → Int32) (l : Nat → Int64) (v : Int32) : (rF m i l).set 52 (.int v) = rF m (upd i 52 v) l := rfl
theorem rg_53 (m : Nat) (i : Nat → Int32) (l : Nat → Int64) : (rF m i l)[53]? = some (.int (i 53)) := rfl
theorem rf_53 (m : Nat) (i : Nat → Int32) (l : Nat → Int64) (v : Int32) : (rF m i l).set 53 (.int v) = rF m (upd i 53 v) l := rfl
theorem rg_54 (m : Nat) (i : Nat → Int32) (l : Nat → Int64) : (rF m i l)[54]? = some (.int (i 54)) := rfl
theorem rf_54 (m : Nat) (i : Nat → Int32) (l : Nat → Int64) (v : Int32) : (rF m i l).set 54 (.int v) = rF m (upd i 54 v) l := rfl
theorem rg_55 (m : Nat) (i : Nat → Int32) (l : Nat → Int64) : (rF m i l)[55]? = some (.int (i 55)) := rfl
theorem rf_55 (m : Nat) (i : Nat → Int32) (l : Nat → Int64) (v : Int32) : (rF m i l).set 55 (.int v) = rF m (upd i 55 v) l := rfl
theorem rg_56 (m : Nat) (i : Nat → Int32) (l : Nat → Int64) : (rF m i l)[56]? = some (.long (l 56)) := rfl
theorem rf_56 (m : Nat) (i : Nat → Int32) (l : Nat → Int64) (v : Int64) : (rF m i l).set 56 (.long v) = rF m i (vp_updL l 56 v) := rfl
theorem rg_57 (m : Nat) (i : Nat → Int32) (l : Nat → Int64) : (rF m i l)[57]? = some (.int (i 57)) := rfl
theorem rf_57 (m : Nat) (i : Nat → Int32) (l : Nat → Int64) (v : Int32) : (rF m i l).set 57 (.int v) = rF m (upd i 57 v) l := rfl
theorem rg_58 (m : Nat) (i : Nat → Int32) (l : Nat → Int64) : (rF m i l)[58]? = some (.int (i 58)) := rfl
theorem rf_58 (m : Nat) (i : Nat → Int32) (l : Nat → Int64) (v : Int32) : (rF m i l).set 58 (.int v) = rF m (upd i 58 v) l := rfl
theorem rg_59 (m : Nat) (i : Nat → Int32) (l : Nat → Int64) : (rF m i l)[59]? = some (.int (i 59)) := rfl
theorem rf_59 (m : Nat) (i : Nat → Int32) (l : Nat → Int64) (v : Int32) : (rF m i l).set 59 (.int v) = rF m (upd i 59 v) l := rfl
theorem rF_lt {m : Nat} {i : Nat → Int32} {l : Nat → Int64} (k : Nat) (h : Nat.blt k 60 = true) : k < (rF m i l).length := Nat.le_of_ble_eq_true h
