/-! the reference's object over Ints -/
abbrev RS : Type := (Nat → Int) × (Nat → Int64) × (Nat → Nat → Int) × (Nat → Nat → Int64)
def rI (pre post : mj_H) (i : Nat → Int) (l : Nat → Int64) (I : Nat → Nat → Int) (J : Nat → Nat → Int64) : mj_H := rH pre post 102 (fun k => Int32.ofInt (i k)) l (fun k j => Int32.ofInt (I k j)) J
abbrev rS (pre post : mj_H) (s : RS) : mj_H := rI pre post s.1 s.2.1 s.2.2.1 s.2.2.2
theorem n_upI (I : Nat → Nat → Int) (k : Nat) (f : Nat → Int) : va_up (fun k j => Int32.ofInt (I k j)) k (fun j => Int32.ofInt (f j)) = fun a j => Int32.ofInt (va_up I k f a j) := by
  funext a
  unfold va_up
  by_cases h : a = k
  · rw [if_pos h, if_pos h]
  · rw [if_neg h, if_neg h]
section RI
variable {pre post : mj_H} {i : Nat → Int} {l : Nat → Int64} {I : Nat → Nat → Int} {J : Nat → Nat → Int64} {T : mj_T} {xt : mj_X} {ini : Bool} {S : List Value}
theorem q_geti {x k fin : Nat} {ty : FieldType} {v : Int} (hm : pre.length = 102) (hx : T.1 x = some (12, k, ty, fin)) (hv : ∀ m i l, (rF m i l)[k]? = some (.int (i k))) (he : i k = v) : mj_hp T xt pg_tl 2 ini (.getfield x) (.ref 102 :: S) (rI pre post i l I J) = some (ii v :: S, rI pre post i l I J) := by
  subst he
  exact r_get hm (by decide) hx (hv _ _ _)
theorem q_getl {x k fin : Nat} {ty : FieldType} {v : Int64} (hm : pre.length = 102) (hx : T.1 x = some (12, k, ty, fin)) (hv : ∀ m i l, (rF m i l)[k]? = some (.long (l k))) (he : l k = v) : mj_hp T xt pg_tl 2 ini (.getfield x) (.ref 102 :: S) (rI pre post i l I J) = some (.long v :: S, rI pre post i l I J) := by
  subst he
  exact r_get hm (by decide) hx (hv _ _ _)
theorem q_getr {x k fin p : Nat} {ty : FieldType} (hm : pre.length = 102) (hx : T.1 x = some (12, k, ty, fin)) (hv : ∀ m i l, (rF m i l)[k]? = some (.ref (m + p))) : mj_hp T xt pg_tl 2 ini (.getfield x) (.ref 102 :: S) (rI pre post i l I J) = some (.ref (102 + p) :: S, rI pre post i l I J) := r_get hm (by decide) hx (hv _ _ _)
theorem q_puti {x k : Nat} {v : Int} (hm : pre.length = 102) (hx : T.1 x = some (12, k, .int, 0)) (hk : Nat.blt k 60 = true) (hv : ∀ m i l v, (rF m i l).set k (.int v) = rF m (upd i k v) l) : mj_hp T xt pg_tl 2 ini (.putfield x) (ii v :: .ref 102 :: S) (rI pre post i l I J) = some (S, rI pre post (va_up i k v) l I J) := by
  have := r_puti (T := T) (xt := xt) (tl := pg_tl) (ini := ini) (S := S) (i := fun k => Int32.ofInt (i k)) (l := l) (I := fun k j => Int32.ofInt (I k j)) (J := J) (post := post) (v := Int32.ofInt v) hm (by decide) hx (rF_lt k hk) (hv _ _ _ _)
  rw [n_upd] at this
  exact this
theorem q_putz {x k : Nat} {c : Bool} (hm : pre.length = 102) (hx : T.1 x = some (12, k, .boolean, 0)) (hk : Nat.blt k 60 = true) (hv : ∀ m i l v, (rF m i l).set k (.int v) = rF m (upd i k v) l) : mj_hp T xt pg_tl 2 ini (.putfield x) (zz c :: .ref 102 :: S) (rI pre post i l I J) = some (S, rI pre post (va_up i k (zi c)) l I J) := by
  have hb : Int32.ofInt (zi c) = 0 ∨ Int32.ofInt (zi c) = 1 := by cases c <;> decide
  have := r_putb (T := T) (xt := xt) (tl := pg_tl) (ini := ini) (S := S) (i := fun k => Int32.ofInt (i k)) (l := l) (I := fun k j => Int32.ofInt (I k j)) (J := J) (post := post) (v := Int32.ofInt (zi c)) hb hm (by decide) hx (rF_lt k hk) (hv _ _ _ _)
  rw [n_upd] at this
  exact this
theorem q_putl {x k : Nat} {v : Int64} (hm : pre.length = 102) (hx : T.1 x = some (12, k, .long, 0)) (hk : Nat.blt k 60 = true) (hv : ∀ m i l v, (rF m i l).set k (.long v) = rF m i (vp_updL l k v)) : mj_hp T xt pg_tl 2 ini (.putfield x) (.long v :: .ref 102 :: S) (rI pre post i l I J) = some (S, rI pre post i (va_up l k v) I J) := r_putl hm (by decide) hx (rF_lt k hk) (hv _ _ _ _)
theorem q_iald {j v : Int} {k p n : Nat} (hm : pre.length = 102) (hc : ∀ m i l I J, (rC m i l I J)[p]? = some (.inl (0, n, .inl (I k)))) (h0 : 0 ≤ j) (h1 : j < n) (h2 : (n : Int) ≤ 2147483647) (he : I k j.toNat = v) : mj_hp T xt pg_tl 2 ini .iaload (ii j :: .ref (102 + p) :: S) (rI pre post i l I J) = some (ii v :: S, rI pre post i l I J) := by
  have := r_iald (T := T) (xt := xt) (tl := pg_tl) (ini := ini) (S := S) (i := fun k => Int32.ofInt (i k)) (l := l) (I := fun k j => Int32.ofInt (I k j)) (J := J) (post := post) (j := Int32.ofInt j) hm (by decide) (hc _ _ _ _ _) rfl (g_ok h0 h1 h2)
  rw [n_cl (by omega) (by omega), he] at this
  exact this
theorem q_bald {j v : Int} {k p n : Nat} (hm : pre.length = 102) (hc : ∀ m i l I J, (rC m i l I J)[p]? = some (.inl (2, n, .inl (I k)))) (h0 : 0 ≤ j) (h1 : j < n) (h2 : (n : Int) ≤ 2147483647) (he : I k j.toNat = v) : mj_hp T xt pg_tl 2 ini .baload (ii j :: .ref (102 + p) :: S) (rI pre post i l I J) = some (ii v :: S, rI pre post i l I J) := by
  have := r_bald (T := T) (xt := xt) (tl := pg_tl) (ini := ini) (S := S) (i := fun k => Int32.ofInt (i k)) (l := l) (I := fun k j => Int32.ofInt (I k j)) (J := J) (post := post) (j := Int32.ofInt j) hm (by decide) (hc _ _ _ _ _) rfl (g_ok h0 h1 h2)
  rw [n_cl (by omega) (by omega), he] at this
  exact this
theorem q_lald {j : Int} {v : Int64} {k p n : Nat} (hm : pre.length = 102) (hc : ∀ m i l I J, (rC m i l I J)[p]? = some (.inl (1, n, .inr (.inl (J k))))) (h0 : 0 ≤ j) (h1 : j < n) (h2 : (n : Int) ≤ 2147483647) (he : J k j.toNat = v) : mj_hp T xt pg_tl 2 ini .laload (ii j :: .ref (102 + p) :: S) (rI pre post i l I J) = some (.long v :: S, rI pre post i l I J) := by
  have := r_lald (T := T) (xt := xt) (tl := pg_tl) (ini := ini) (S := S) (i := fun k => Int32.ofInt (i k)) (l := l) (I := fun k j => Int32.ofInt (I k j)) (J := J) (post := post) (j := Int32.ofInt j) hm (by decide) (hc _ _ _ _ _) rfl (g_ok h0 h1 h2)
  rw [n_cl (by omega) (by omega), he] at this
  exact this
theorem q_iast {j v : Int} {k p n : Nat} (hm : pre.length = 102) (hc : ∀ m i l I J, (rC m i l I J)[p]? = some (.inl (0, n, .inl (I k)))) (hs : ∀ m i l I J f, (rC m i l I J).set p (.inl (0, n, .inl f)) = rC m i l (va_up I k f) J) (h0 : 0 ≤ j) (h1 : j < n) (h2 : (n : Int) ≤ 2147483647) : mj_hp T xt pg_tl 2 ini .iastore (ii v :: ii j :: .ref (102 + p) :: S) (rI pre post i l I J) = some (S, rI pre post i l (va_up I k (va_up (I k) j.toNat v)) J) := by
  have := r_iastk (T := T) (xt := xt) (tl := pg_tl) (ini := ini) (S := S) (i := fun k => Int32.ofInt (i k)) (l := l) (I := fun k j => Int32.ofInt (I k j)) (J := J) (post := post) (k := k) (j := Int32.ofInt j) (v := Int32.ofInt v) hm (by decide) (hc _ _ _ _ _) rfl (g_ok h0 h1 h2) (hs _ _ _ _ _ _)
  rw [n_cl (by omega) (by omega), n_upd, n_upI] at this
  exact this
theorem q_last {j : Int} {v : Int64} {k p n : Nat} (hm : pre.length = 102) (hc : ∀ m i l I J, (rC m i l I J)[p]? = some (.inl (1, n, .inr (.inl (J k))))) (hs : ∀ m i l I J f, (rC m i l I J).set p (.inl (1, n, .inr (.inl f))) = rC m i l I (va_up J k f)) (h0 : 0 ≤ j) (h1 : j < n) (h2 : (n : Int) ≤ 2147483647) : mj_hp T xt pg_tl 2 ini .lastore (.long v :: ii j :: .ref (102 + p) :: S) (rI pre post i l I J) = some (S, rI pre post i l I (va_up J k (va_up (J k) j.toNat v))) := by
  have := r_lastk (T := T) (xt := xt) (tl := pg_tl) (ini := ini) (S := S) (i := fun k => Int32.ofInt (i k)) (l := l) (I := fun k j => Int32.ofInt (I k j)) (J := J) (post := post) (k := k) (j := Int32.ofInt j) (v := v) hm (by decide) (hc _ _ _ _ _) rfl (g_ok h0 h1 h2) (hs _ _ _ _ _ _)
  rw [n_cl (by omega) (by omega)] at this
  exact this
theorem q_inv {mt : mj_C} {x k nn : Nat} {As : List Value} (hm : pre.length = 102) (hx : mt x = some (1, k, nn, 12)) (hl : As.length = nn) (hr : mj_room S = true) : mj_inv mt 2 (.invokevirtual x) (As.reverse ++ .ref 102 :: S) (rI pre post i l I J) = some (k + 1, .ref 102 :: As, S) := r_inv hm (by decide) hx hl hr
end RI
/-- bits of a shape -/
theorem n_and7 {a : Int} (h0 : 0 ≤ a) (h1 : a ≤ 2147483647) : Int32.ofInt a &&& Int32.ofInt 7 = Int32.ofInt (a % 8) := by
  apply Int32.toBitVec_inj.mp
  rw [Int32.toBitVec_and, Int32.toBitVec_ofInt, Int32.toBitVec_ofInt, Int32.toBitVec_ofInt]
  apply BitVec.eq_of_toNat_eq
  obtain ⟨n, rfl⟩ : ∃ n : Nat, a = (n : Int) := ⟨a.toNat, by omega⟩
  rw [BitVec.toNat_and, show ((n : Int) % 8) = ((n % 8 : Nat) : Int) by omega, BitVec.ofInt_natCast, BitVec.ofInt_natCast, show (7 : Int) = ((7 : Nat) : Int) from rfl, BitVec.ofInt_natCast, BitVec.toNat_ofNat, BitVec.toNat_ofNat, BitVec.toNat_ofNat, Nat.mod_eq_of_lt (a := n) (by omega), Nat.mod_eq_of_lt (a := n % 8) (by omega), Nat.mod_eq_of_lt (a := 7) (by omega)]
  exact Nat.and_two_pow_sub_one_eq_mod n 3
theorem n_and255 {a : Int} (h0 : 0 ≤ a) (h1 : a ≤ 2147483647) : Int32.ofInt a &&& Int32.ofInt 255 = Int32.ofInt (a % 256) := by
  apply Int32.toBitVec_inj.mp
  rw [Int32.toBitVec_and, Int32.toBitVec_ofInt, Int32.toBitVec_ofInt, Int32.toBitVec_ofInt]
  apply BitVec.eq_of_toNat_eq
  obtain ⟨n, rfl⟩ : ∃ n : Nat, a = (n : Int) := ⟨a.toNat, by omega⟩
  rw [BitVec.toNat_and, show ((n : Int) % 256) = ((n % 256 : Nat) : Int) by omega, BitVec.ofInt_natCast, BitVec.ofInt_natCast, show (255 : Int) = ((255 : Nat) : Int) from rfl, BitVec.ofInt_natCast, BitVec.toNat_ofNat, BitVec.toNat_ofNat, BitVec.toNat_ofNat, Nat.mod_eq_of_lt (a := n) (by omega), Nat.mod_eq_of_lt (a := n % 256) (by omega), Nat.mod_eq_of_lt (a := 255) (by omega)]
  exact Nat.and_two_pow_sub_one_eq_mod n 8
