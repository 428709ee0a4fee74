/-! printed by wip/refgen.py: the reference as numbers: ints i, longs l, arrays I, J, by the numbers of its fields -/
def rF (m : Nat) (i : Nat → Int32) (l : Nat → Int64) : List Value := [.ref (m + 1), .ref (m + 2), .ref (m + 3), .int (i 3), .int (i 4), .int (i 5), .int (i 6), .int (i 7), .int (i 8), .int (i 9), .int (i 10), .int (i 11), .ref (m + 4), .int (i 13), .ref (m + 5), .ref (m + 6), .ref (m + 7), .int (i 17), .int (i 18), .ref (m + 8), .ref (m + 9), .ref (m + 10), .ref (m + 11), .int (i 23), .int (i 24), .ref (m + 12), .ref (m + 13), .ref (m + 14), .ref (m + 15), .ref (m + 16), .int (i 30), .int (i 31), .ref (m + 17), .int (i 33), .int (i 34), .int (i 35), .int (i 36), .int (i 37), .int (i 38), .int (i 39), .int (i 40), .long (l 41), .long (l 42), .ref (m + 18), .ref (m + 19), .ref (m + 20), .ref (m + 21), .ref (m + 22), .ref (m + 23), .ref (m + 24), .int (i 50), .int (i 51), .int (i 52), .int (i 53), .int (i 54), .int (i 55), .long (l 56), .int (i 57), .int (i 58), .int (i 59)]
def rC (m : Nat) (i : Nat → Int32) (l : Nat → Int64) (I : Nat → Nat → Int32) (J : Nat → Nat → Int64) : List mj_E := [.inr (12, rF m i l), .inl (1, 820000, .inr (.inl (J 0))), .inl (0, 310000, .inl (I 1)), .inl (0, 310000, .inl (I 2)), .inl (0, 8192, .inl (I 12)), .inl (0, 260, .inl (I 14)), .inl (2, 400, .inl (I 15)), .inl (2, 400, .inl (I 16)), .inl (1, 40, .inr (.inl (J 19))), .inl (1, 40, .inr (.inl (J 20))), .inl (0, 40, .inl (I 21)), .inl (0, 40, .inl (I 22)), .inl (1, 320, .inr (.inl (J 25))), .inl (0, 320, .inl (I 26)), .inl (0, 4, .inl (I 27)), .inl (0, 4, .inl (I 28)), .inl (3, 4, .inl (I 29)), .inl (2, 220, .inl (I 32)), .inl (0, 84000, .inl (I 43)), .inl (0, 84000, .inl (I 44)), .inl (0, 84000, .inl (I 45)), .inl (0, 84000, .inl (I 46)), .inl (0, 84000, .inl (I 47)), .inl (0, 84000, .inl (I 48)), .inl (1, 84000, .inr (.inl (J 49)))]
def rH (pre post : mj_H) (m : Nat) (i : Nat → Int32) (l : Nat → Int64) (I : Nat → Nat → Int32) (J : Nat → Nat → Int64) : mj_H := pre ++ (rC m i l I J ++ post)
section RH
variable {pre post : mj_H} {m : Nat} {i : Nat → Int32} {l : Nat → Int64} {I : Nat → Nat → Int32} {J : Nat → Nat → Int64} {T : mj_T} {xt : mj_X} {tl : List (FieldType × Nat)} {ini : Bool} {S : List Value}
theorem rC_len : (rC m i l I J).length = 25 := rfl
theorem rH_at (hm : pre.length = m) {p : Nat} {e : mj_E} (he : (rC m i l I J)[p]? = some e) : (rH pre post m i l I J)[m + p]? = some e := by
  have hp : p < (rC m i l I J).length := (List.getElem?_eq_some_iff.mp he).1
  unfold rH
  rw [List.getElem?_append_right (by omega), hm, Nat.add_sub_cancel_left, List.getElem?_append_left hp]
  exact he
theorem rH_obj (hm : pre.length = m) : (rH pre post m i l I J)[m]? = some (.inr (12, rF m i l)) := rH_at (p := 0) hm rfl
theorem rH_set (hm : pre.length = m) {p : Nat} (hp : p < (rC m i l I J).length) (e : mj_E) : (rH pre post m i l I J).set (m + p) e = pre ++ ((rC m i l I J).set p e ++ post) := by
  unfold rH
  rw [List.set_append_right _ _ (by omega), hm, Nat.add_sub_cancel_left, List.set_append_left _ _ hp]
theorem r_get {x k fin : Nat} {ty : FieldType} {v : Value} (hm : pre.length = m) (h2 : 2 ≤ m) (hx : T.1 x = some (12, k, ty, fin)) (hv : (rF m i l)[k]? = some v) : mj_hp T xt tl 2 ini (.getfield x) (.ref m :: S) (rH pre post m i l I J) = some (v :: S, rH pre post m i l I J) := by
  unfold mj_hp mj_gf
  simp only [hx, rH_obj hm, h2, and_self, if_true, hv, Option.map_some]
theorem r_put {x k fin : Nat} {ty : FieldType} {v : Value} {i' : Nat → Int32} {l' : Nat → Int64} (hm : pre.length = m) (h2 : 2 ≤ m) (hx : T.1 x = some (12, k, ty, fin)) (hk : k < (rF m i l).length) (hf : mj_fit ty v = true) (h0 : fin = 0) (he : (rF m i l).set k v = rF m i' l') : mj_hp T xt tl 2 ini (.putfield x) (v :: .ref m :: S) (rH pre post m i l I J) = some (S, rH pre post m i' l' I J) := by
  unfold mj_hp mj_pf
  simp only [hx, rH_obj hm, hk, h2, hf, h0, he]
  rw [if_pos ⟨trivial, trivial, trivial, trivial, by decide, fun z => by cases z⟩]
  have h1 := rH_set (post := post) (i := i) (l := l) (I := I) (J := J) hm (p := 0) (by rw [rC_len]; decide) (.inr (12, rF m i' l'))
  rw [Nat.add_zero] at h1
  rw [h1]
  rfl
theorem r_puti {x k : Nat} {v : Int32} (hm : pre.length = m) (h2 : 2 ≤ m) (hx : T.1 x = some (12, k, .int, 0)) (hk : k < (rF m i l).length) (he : (rF m i l).set k (.int v) = rF m (upd i k v) l) : mj_hp T xt tl 2 ini (.putfield x) (.int v :: .ref m :: S) (rH pre post m i l I J) = some (S, rH pre post m (upd i k v) l I J) := r_put hm h2 hx hk rfl rfl he
theorem r_putl {x k : Nat} {v : Int64} (hm : pre.length = m) (h2 : 2 ≤ m) (hx : T.1 x = some (12, k, .long, 0)) (hk : k < (rF m i l).length) (he : (rF m i l).set k (.long v) = rF m i (vp_updL l k v)) : mj_hp T xt tl 2 ini (.putfield x) (.long v :: .ref m :: S) (rH pre post m i l I J) = some (S, rH pre post m i (vp_updL l k v) I J) := r_put hm h2 hx hk rfl rfl he
theorem r_iald {j : Int32} {p t n : Nat} {f : Nat → Int32} (hm : pre.length = m) (h2 : 2 ≤ m) (he : (rC m i l I J)[p]? = some (.inl (t, n, .inl f))) {z : Nat} (ht : tl[t]? = some (.int, z)) (hj : ¬ (j < 0 ∨ n ≤ j.toNatClampNeg)) : mj_hp T xt tl 2 ini .iaload (.int j :: .ref (m + p) :: S) (rH pre post m i l I J) = some (.int (f j.toNatClampNeg) :: S, rH pre post m i l I J) := by
  unfold mj_hp mj_ald
  have h3 : ¬ m + p < 2 := by omega
  simp only [h3, rH_at hm he, hj, ht, if_false]
theorem r_lald {j : Int32} {p t n : Nat} {f : Nat → Int64} (hm : pre.length = m) (h2 : 2 ≤ m) (he : (rC m i l I J)[p]? = some (.inl (t, n, .inr (.inl f)))) {z : Nat} (ht : tl[t]? = some (.long, z)) (hj : ¬ (j < 0 ∨ n ≤ j.toNatClampNeg)) : mj_hp T xt tl 2 ini .laload (.int j :: .ref (m + p) :: S) (rH pre post m i l I J) = some (.long (f j.toNatClampNeg) :: S, rH pre post m i l I J) := by
  unfold mj_hp mj_ald
  have h3 : ¬ m + p < 2 := by omega
  simp only [h3, rH_at hm he, hj, ht, if_false]
theorem r_iast {j v : Int32} {p t n : Nat} {f : Nat → Int32} {I' : Nat → Nat → Int32} (hm : pre.length = m) (h2 : 2 ≤ m) (he : (rC m i l I J)[p]? = some (.inl (t, n, .inl f))) {z : Nat} (ht : tl[t]? = some (.int, z)) (hj : ¬ (j < 0 ∨ n ≤ j.toNatClampNeg)) (hs : (rC m i l I J).set p (.inl (t, n, .inl (upd f j.toNatClampNeg v))) = rC m i l I' J) : mj_hp T xt tl 2 ini .iastore (.int v :: .int j :: .ref (m + p) :: S) (rH pre post m i l I J) = some (S, rH pre post m i l I' J) := by
  unfold mj_hp mj_ast
  have h3 : ¬ m + p < 2 := by omega
  simp only [h3, rH_at hm he, hj, ht, if_false]
  rw [rH_set hm (List.getElem?_eq_some_iff.mp he).1, hs]
  rfl
theorem r_last {j : Int32} {v : Int64} {p t n : Nat} {f : Nat → Int64} {J' : Nat → Nat → Int64} (hm : pre.length = m) (h2 : 2 ≤ m) (he : (rC m i l I J)[p]? = some (.inl (t, n, .inr (.inl f)))) {z : Nat} (ht : tl[t]? = some (.long, z)) (hj : ¬ (j < 0 ∨ n ≤ j.toNatClampNeg)) (hs : (rC m i l I J).set p (.inl (t, n, .inr (.inl (vp_updL f j.toNatClampNeg v)))) = rC m i l I J') : mj_hp T xt tl 2 ini .lastore (.long v :: .int j :: .ref (m + p) :: S) (rH pre post m i l I J) = some (S, rH pre post m i l I J') := by
  unfold mj_hp mj_ast
  have h3 : ¬ m + p < 2 := by omega
  simp only [h3, rH_at hm he, hj, ht, if_false]
  rw [rH_set hm (List.getElem?_eq_some_iff.mp he).1, hs]
  rfl
theorem r_iastk {k : Nat} {j v : Int32} {p t n : Nat} (hm : pre.length = m) (h2 : 2 ≤ m) (he : (rC m i l I J)[p]? = some (.inl (t, n, .inl (I k)))) {z : Nat} (ht : tl[t]? = some (.int, z)) (hj : ¬ (j < 0 ∨ n ≤ j.toNatClampNeg)) (hs : (rC m i l I J).set p (.inl (t, n, .inl (upd (I k) j.toNatClampNeg v))) = rC m i l (va_up I k (upd (I k) j.toNatClampNeg v)) J) : mj_hp T xt tl 2 ini .iastore (.int v :: .int j :: .ref (m + p) :: S) (rH pre post m i l I J) = some (S, rH pre post m i l (va_up I k (upd (I k) j.toNatClampNeg v)) J) := r_iast hm h2 he ht hj hs
theorem r_lastk {k : Nat} {j : Int32} {v : Int64} {p t n : Nat} (hm : pre.length = m) (h2 : 2 ≤ m) (he : (rC m i l I J)[p]? = some (.inl (t, n, .inr (.inl (J k))))) {z : Nat} (ht : tl[t]? = some (.long, z)) (hj : ¬ (j < 0 ∨ n ≤ j.toNatClampNeg)) (hs : (rC m i l I J).set p (.inl (t, n, .inr (.inl (vp_updL (J k) j.toNatClampNeg v)))) = rC m i l I (va_up J k (vp_updL (J k) j.toNatClampNeg v))) : mj_hp T xt tl 2 ini .lastore (.long v :: .int j :: .ref (m + p) :: S) (rH pre post m i l I J) = some (S, rH pre post m i l I (va_up J k (vp_updL (J k) j.toNatClampNeg v))) := r_last hm h2 he ht hj hs
theorem r_inv {mt : mj_C} {x k nn : Nat} {As : List Value} (hm : pre.length = m) (h2 : 2 ≤ m) (hx : mt x = some (1, k, nn, 12)) (hl : As.length = nn) (hr : mj_room S = true) : mj_inv mt 2 (.invokevirtual x) (As.reverse ++ .ref m :: S) (rH pre post m i l I J) = some (k + 1, .ref m :: As, S) := by
  unfold mj_inv
  have e1 : (As.reverse ++ Value.ref m :: S).drop nn = .ref m :: S := by rw [List.drop_append, ← hl, ← List.length_reverse, List.drop_length, Nat.sub_self]; rfl
  have e2 : (As.reverse ++ Value.ref m :: S).take nn = As.reverse := by rw [List.take_append, ← hl, ← List.length_reverse, List.take_length, Nat.sub_self]; simp
  simp only [hx, e1, e2, rH_obj hm, h2, hr, and_self, if_true, List.reverse_reverse]
end RH
