/-! mj: calls, returns, a method's run -/
/-- a class's calls, by pool numbers: kind (0 Object's own constructor, 1 virtual, 2 static, 3 constructor), method, how many arguments, the receiver's class -/
abbrev mj_C : Type := Nat → Option (Nat × Nat × Nat × Nat)
def mj_room (S : List Value) : Bool := decide ((S.map fun v => v.category).sum ≤ 8)
/-- what is called (0: Object's constructor, else the method's number and one), with what, what is left on the stack -/
def mj_inv (mt : mj_C) (c0 : Nat) (i : Instr) (S : List Value) (h : mj_H) : Option (Nat × List Value × List Value) := match i with
  | .invokevirtual x => match mt x with
    | some (1, k, n, ci) => match S.drop n with
      | .ref a :: rest => match h[a]? with
        | some (.inr (c, _)) => if c = ci ∧ c0 ≤ a ∧ mj_room rest = true then some (k + 1, .ref a :: (S.take n).reverse, rest) else none
        | _ => none
      | _ => none
    | _ => none
  | .invokestatic x => match mt x with
    | some (2, k, n, _) => if n ≤ S.length ∧ mj_room (S.drop n) = true then some (k + 1, (S.take n).reverse, S.drop n) else none
    | _ => none
  | .invokespecial x => match mt x with
    | some (0, _, _, _) => match S with
      | .ref a :: rest => if mj_room rest = true then some (0, [.ref a], rest) else none
      | _ => none
    | some (3, k, n, _) => match S.drop n with
      | .ref a :: rest => if mj_room rest = true then some (k + 1, .ref a :: (S.take n).reverse, rest) else none
      | _ => none
    | _ => none
  | _ => none
/-- which sort of token a byte begins (ArrayCalculator.Tokens.sortOfByte, which asks two String constants by indexOf): these are their bytes -/
def mj_verbs : List Int32 := [43, 45, 42, 37, 38, 124, 60, 62, 61, 126, 33, 44, 35, 63, 64, 36, 94, 46, 95]
def mj_marks : List Int32 := [59, 40, 41, 91, 93, 123, 125, 58]
def mj_sob (c : Int32) : Int32 := if c < 0 then 0 else if c ∈ mj_verbs then 5 else if c = 47 ∨ c = 92 ∨ c = 39 then 6 else if c ∈ mj_marks then 7 else 0
/-- the JDK's own: Math's max, min, abs of ints (0 to 2) and longs (3 to 5), System.arraycopy of longs (6); Tokens.sortOfByte (7) -/
def mj_pr (tl : List (FieldType × Nat)) (c0 op : Nat) (S : List Value) (h : mj_H) : Option (List Value × mj_H) := match op, S with
  | 0, .int y :: .int x :: S => if mj_room S = true then some (.int (if x < y then y else x) :: S, h) else none
  | 1, .int y :: .int x :: S => if mj_room S = true then some (.int (if y < x then y else x) :: S, h) else none
  | 2, .int x :: S => if mj_room S = true then some (.int (if 0 ≤ x then x else 0 - x) :: S, h) else none
  | 3, .long y :: .long x :: S => if mj_room S = true then some (.long (if y < x then x else y) :: S, h) else none
  | 4, .long y :: .long x :: S => if mj_room S = true then some (.long (if y < x then y else x) :: S, h) else none
  | 5, .long x :: S => if mj_room S = true then some (.long (if 0 < x then x else -x) :: S, h) else none
  | 6, .int n :: .int dp :: .ref a :: .int sp :: .ref b :: S => match h[b]?, h[a]? with
    | some (.inl (t0, n0, .inr (.inl f))), some (.inl (t1, n1, .inr (.inl g))) => if mj_room S = true ∧ c0 ≤ a ∧ c0 ≤ b ∧ t0 = 1 ∧ t1 = 1 ∧ (tl[1]?).map (fun q => q.1) = some .long ∧ ¬ sp < 0 ∧ ¬ dp < 0 ∧ ¬ n < 0 ∧ sp.toNatClampNeg + n.toNatClampNeg ≤ n0 ∧ dp.toNatClampNeg + n.toNatClampNeg ≤ n1 then some (S, h.set a (.inl (t1, n1, .inr (.inl (va_cpy f g sp.toNatClampNeg dp.toNatClampNeg n.toNatClampNeg))))) else none
    | _, _ => none
  | 7, .int c :: S => if mj_room S = true ∧ c < 256 then some (.int (mj_sob c) :: S, h) else none
  | _, _ => none
def mj_prim (mt : mj_C) (tl : List (FieldType × Nat)) (c0 : Nat) (i : Instr) (S : List Value) (h : mj_H) : Option (List Value × mj_H) := match i with
  | .invokestatic x => match mt x with
    | some (4, op, _, _) => mj_pr tl c0 op S h
    | _ => none
  | .invokevirtual x => match mt x with
    | some (4, 8, _, _) => match S with
      | .ref a :: S => match h[a]? with
        | some (.inl (t0, n0, .inr (.inl f))) => if mj_room S = true ∧ c0 ≤ a ∧ t0 = 1 ∧ (tl[1]?).map (fun q => q.1) = some .long then some (.ref h.length :: S, h ++ [.inl (t0, n0, .inr (.inl (va_cpy f (fun _ => 0) 0 0 n0)))]) else none
        | _ => none
      | _ => none
    | _ => none
  | .checkcast x => match mt x with
    | some (4, 9, _, _) => match S with
      | .ref a :: S => match h[a]? with
        | some (.inl (t0, _, .inr (.inl _))) => if c0 ≤ a ∧ t0 = 1 ∧ (tl[1]?).map (fun q => q.1) = some .long then some (.ref a :: S, h) else none
        | _ => none
      | _ => none
    | _ => none
  | _ => none
def mj_ret (ret : Option FieldType) (i : Instr) (S : List Value) : Option (Option Value) := match i with
  | .return_ => match ret, S with
    | none, [] => some none
    | _, _ => none
  | .ireturn => match ret, S with
    | some .int, [.int x] => some (some (.int x))
    | some .boolean, [.int x] => if x = 0 ∨ x = 1 then some (some (.int x)) else none
    | _, _ => none
  | .lreturn => match ret, S with
    | some .long, [.long x] => some (some (.long x))
    | _, _ => none
  | .areturn => match ret, S with
    | some (.object _), [.ref a] => some (some (.ref a))
    | some (.object _), [.null] => some (some .null)
    | some (.array _), [.ref a] => some (some (.ref a))
    | some (.array _), [.null] => some (some .null)
    | _, _ => none
  | _ => none
/-- which table of steps an instruction is in -/
def mj_kd (i : Instr) : Nat := match i with
  | .iload _ => 1
  | .iload_n _ => 1
  | .lload _ => 1
  | .lload_n _ => 1
  | .aload _ => 1
  | .aload_n _ => 1
  | .istore _ => 1
  | .istore_n _ => 1
  | .lstore _ => 1
  | .lstore_n _ => 1
  | .astore _ => 1
  | .astore_n _ => 1
  | .iinc _ _ => 1
  | .goto _ => 2
  | .ifCond _ _ => 2
  | .if_icmp _ _ => 2
  | .ifnull _ => 2
  | .ifnonnull _ => 2
  | .tableswitch _ _ _ _ => 2
  | .lookupswitch _ _ => 2
  | .getfield _ => 3
  | .putfield _ => 3
  | .iaload => 3
  | .laload => 3
  | .baload => 3
  | .aaload => 3
  | .iastore => 3
  | .lastore => 3
  | .bastore => 3
  | .aastore => 3
  | .arraylength => 3
  | .newarray _ => 3
  | .anewarray _ => 3
  | .new _ => 3
  | .ldc _ => 3
  | .ldc_w _ => 3
  | .ldc2_w _ => 3
  | .getstatic _ => 3
  | .invokevirtual _ => 4
  | .invokestatic _ => 4
  | .invokespecial _ => 4
  | .checkcast _ => 4
  | .ireturn => 5
  | .lreturn => 5
  | .areturn => 5
  | .return_ => 5
  | _ => 0
abbrev mj_R : Type := Option (Option Value × mj_H)
def mj_run (call : Nat → List Value → mj_H → mj_R) (T : mj_T) (mt : mj_C) (xt : mj_X) (tl : List (FieldType × Nat)) (c0 nL dep : Nat) (ini : Bool) (ret : Option FieldType) (code : Nat → Option (Instr × Nat)) : Nat → Nat → mj_L → List Value → mj_H → mj_R
  | 0, _, _, _, _ => none
  | n + 1, pc, L, S, h => match code pc with
    | none => none
    | some (i, len) => if mj_lenOk i len = true then (match mj_kd i with
      | 0 => match mj_alu i S with
        | some S' => mj_run call T mt xt tl c0 nL dep ini ret code n (pc + len) L S' h
        | none => none
      | 1 => match mj_loc nL i L S with
        | some (L', S') => mj_run call T mt xt tl c0 nL dep ini ret code n (pc + len) L' S' h
        | none => none
      | 2 => match mj_br pc i S with
        | some (t, S') => mj_run call T mt xt tl c0 nL dep ini ret code n t L S' h
        | none => none
      | 3 => match mj_hp T xt tl c0 ini i S h with
        | some (S', h') => mj_run call T mt xt tl c0 nL dep ini ret code n (pc + len) L S' h'
        | none => none
      | 4 => match mj_prim mt tl c0 i S h with
        | some (S', h') => if 0 < dep then mj_run call T mt xt tl c0 nL dep ini ret code n (pc + 3) L S' h' else none
        | none => match mj_inv mt c0 i S h with
          | some (0, _, rest) => if 0 < dep then mj_run call T mt xt tl c0 nL dep ini ret code n (pc + 3) L rest h else none
          | some (k + 1, As, rest) => match call k As h with
            | some (r, h') => mj_run call T mt xt tl c0 nL dep ini ret code n (pc + 3) L (r.toList ++ rest) h'
            | none => none
          | none => none
      | _ => (mj_ret ret i S).map fun r => (r, h)) else none
/-- a method: name, bytes, locals, what it answers; its class's number; is it a constructor; its instructions -/
abbrev mj_M : Type := (MethodName × ByteArray × Nat × Option FieldType) × Nat × Bool × (Nat → Option (Instr × Nat))
def mj_call (mm : Nat → Option mj_M) (TT : Nat → mj_T × mj_C) (xt : mj_X) (tl : List (FieldType × Nat)) (c0 : Nat) : Nat → Nat → Nat → List Value → mj_H → mj_R
  | 0, _, _, _, _ => none
  | d + 1, N, k, As, h => match mm k with
    | none => none
    | some M => if (lg_sl As).length ≤ M.1.2.2.1 then mj_run (mj_call mm TT xt tl c0 d N) (TT M.2.1).1 (TT M.2.1).2 xt tl c0 M.1.2.2.1 d M.2.2.1 M.1.2.2.2 M.2.2.2 N 0 (lv_args 0 As) [] h else none
/-- the cells grow, their numbers stay good -/
def mj_keeps (call : Nat → List Value → mj_H → mj_R) (c0 : Nat) : Prop := ∀ k As h r h', call k As h = some (r, h') → c0 ≤ h.length → mj_hok h.length h → mj_sok h.length As → h.length ≤ h'.length ∧ mj_sl h ≤ mj_sl h' ∧ mj_hok h'.length h' ∧ mj_sok h'.length r.toList
theorem mj_inv_ok {mt : mj_C} {c0 : Nat} {i : Instr} {S : List Value} {h : mj_H} {k n : Nat} {As rest : List Value} (hi : mj_inv mt c0 i S h = some (k, As, rest)) (hS : mj_sok n S) : mj_sok n As ∧ mj_sok n rest := by
  have ht : ∀ j, mj_sok n (S.take j).reverse := fun j v hv => hS v (List.mem_of_mem_take (List.mem_reverse.mp hv))
  have hd : ∀ j, mj_sok n (S.drop j) := fun j v hv => hS v (List.mem_of_mem_drop hv)
  unfold mj_inv at hi
  split at hi
  · split at hi
    · rename_i x k1 n1 ci hm
      split at hi
      · rename_i a rest1 hr
        split at hi
        · split at hi
          · obtain ⟨rfl, h2⟩ := Prod.mk.inj (Option.some.inj hi)
            obtain ⟨rfl, rfl⟩ := Prod.mk.inj h2
            have h3 := hd n1
            rw [hr] at h3
            exact ⟨mj_sok_cons.mpr ⟨(mj_sok_cons.mp h3).1, ht n1⟩, (mj_sok_cons.mp h3).2⟩
          · cases hi
        · cases hi
      · cases hi
    · cases hi
  · split at hi
    · split at hi
      · obtain ⟨rfl, h2⟩ := Prod.mk.inj (Option.some.inj hi)
        obtain ⟨rfl, rfl⟩ := Prod.mk.inj h2
        exact ⟨ht _, hd _⟩
      · cases hi
    · cases hi
  · split at hi
    · split at hi
      · split at hi
        · obtain ⟨rfl, h2⟩ := Prod.mk.inj (Option.some.inj hi)
          obtain ⟨rfl, rfl⟩ := Prod.mk.inj h2
          exact ⟨mj_sok_cons.mpr ⟨(mj_sok_cons.mp hS).1, fun v hv => by cases hv⟩, (mj_sok_cons.mp hS).2⟩
        · cases hi
      · cases hi
    · rename_i x k1 n1 ci hm
      split at hi
      · rename_i a rest1 hr
        split at hi
        · obtain ⟨rfl, h2⟩ := Prod.mk.inj (Option.some.inj hi)
          obtain ⟨rfl, rfl⟩ := Prod.mk.inj h2
          have h3 := hd n1
          rw [hr] at h3
          exact ⟨mj_sok_cons.mpr ⟨(mj_sok_cons.mp h3).1, ht n1⟩, (mj_sok_cons.mp h3).2⟩
        · cases hi
      · cases hi
    · cases hi
  · cases hi
theorem mj_prim_ok {mt : mj_C} {tl : List (FieldType × Nat)} {c0 : Nat} {i : Instr} {S S' : List Value} {h h' : mj_H} (hp : mj_prim mt tl c0 i S h = some (S', h')) (hh : mj_hok h.length h) (hS : mj_sok h.length S) : h.length ≤ h'.length ∧ mj_sl h ≤ mj_sl h' ∧ mj_hok h'.length h' ∧ mj_sok h'.length S' := by
  unfold mj_prim at hp
  split at hp
  · split at hp
    · unfold mj_pr at hp
      split at hp
      · split at hp
        · obtain ⟨rfl, rfl⟩ := Prod.mk.inj (Option.some.inj hp); exact ⟨Nat.le_refl _, Nat.le_refl _, hh, mj_sok_cons.mpr ⟨mj_vok_int _ _, (mj_sok_cons.mp (mj_sok_cons.mp hS).2).2⟩⟩
        · cases hp
      · split at hp
        · obtain ⟨rfl, rfl⟩ := Prod.mk.inj (Option.some.inj hp); exact ⟨Nat.le_refl _, Nat.le_refl _, hh, mj_sok_cons.mpr ⟨mj_vok_int _ _, (mj_sok_cons.mp (mj_sok_cons.mp hS).2).2⟩⟩
        · cases hp
      · split at hp
        · obtain ⟨rfl, rfl⟩ := Prod.mk.inj (Option.some.inj hp); exact ⟨Nat.le_refl _, Nat.le_refl _, hh, mj_sok_cons.mpr ⟨mj_vok_int _ _, (mj_sok_cons.mp hS).2⟩⟩
        · cases hp
      · split at hp
        · obtain ⟨rfl, rfl⟩ := Prod.mk.inj (Option.some.inj hp); exact ⟨Nat.le_refl _, Nat.le_refl _, hh, mj_sok_cons.mpr ⟨mj_vok_long _ _, (mj_sok_cons.mp (mj_sok_cons.mp hS).2).2⟩⟩
        · cases hp
      · split at hp
        · obtain ⟨rfl, rfl⟩ := Prod.mk.inj (Option.some.inj hp); exact ⟨Nat.le_refl _, Nat.le_refl _, hh, mj_sok_cons.mpr ⟨mj_vok_long _ _, (mj_sok_cons.mp (mj_sok_cons.mp hS).2).2⟩⟩
        · cases hp
      · split at hp
        · obtain ⟨rfl, rfl⟩ := Prod.mk.inj (Option.some.inj hp); exact ⟨Nat.le_refl _, Nat.le_refl _, hh, mj_sok_cons.mpr ⟨mj_vok_long _ _, (mj_sok_cons.mp hS).2⟩⟩
        · cases hp
      · split at hp
        · rename_i t0 n0 f t1 n1 g hb ha
          split at hp
          · obtain ⟨rfl, rfl⟩ := Prod.mk.inj (Option.some.inj hp)
            rw [List.length_set]
            refine ⟨Nat.le_refl _, Nat.le_of_eq (Eq.symm (mj_sl_set (e' := .inl (t1, n1, .inr (.inl (va_cpy f g _ _ _)))) ha rfl)), fun z hz => ?_, (mj_sok_cons.mp (mj_sok_cons.mp (mj_sok_cons.mp (mj_sok_cons.mp (mj_sok_cons.mp hS).2).2).2).2).2⟩
            rcases List.mem_or_eq_of_mem_set hz with hz | rfl
            · exact hh z hz
            · trivial
          · cases hp
        · cases hp
      · split at hp
        · obtain ⟨rfl, rfl⟩ := Prod.mk.inj (Option.some.inj hp); exact ⟨Nat.le_refl _, Nat.le_refl _, hh, mj_sok_cons.mpr ⟨mj_vok_int _ _, (mj_sok_cons.mp hS).2⟩⟩
        · cases hp
      · cases hp
    · cases hp
  · split at hp
    · split at hp
      · split at hp
        · rename_i t0 n0 f ha
          split at hp
          · obtain ⟨rfl, rfl⟩ := Prod.mk.inj (Option.some.inj hp)
            rw [List.length_append, mj_sl_push]
            refine ⟨Nat.le_add_right _ _, Nat.le_add_right _ _, fun z hz => ?_, mj_sok_cons.mpr ⟨fun k hk => ?_, fun v hv => mj_vok_mono (Nat.le_add_right _ _) ((mj_sok_cons.mp hS).2 v hv)⟩⟩
            · rcases List.mem_append.mp hz with hz | hz
              · exact mj_eok_mono (Nat.le_add_right _ _) (hh z hz)
              · rw [List.mem_singleton.mp hz]; trivial
            · cases hk; exact Nat.lt_succ_self _
          · cases hp
        · cases hp
      · cases hp
    · cases hp
  · split at hp
    · split at hp
      · split at hp
        · split at hp
          · obtain ⟨rfl, rfl⟩ := Prod.mk.inj (Option.some.inj hp); exact ⟨Nat.le_refl _, Nat.le_refl _, hh, hS⟩
          · cases hp
        · cases hp
      · cases hp
    · cases hp
  · cases hp
theorem mj_ret_S {ret : Option FieldType} {i : Instr} {S : List Value} {r : Option Value} (h : mj_ret ret i S = some r) : S = r.toList := by
  unfold mj_ret at h
  split at h
  all_goals first
    | (split at h <;> first | (cases h; rfl) | (split at h <;> first | (cases h; rfl) | cases h) | cases h)
    | cases h
set_option maxHeartbeats 4000000 in
theorem mj_run_ok {call : Nat → List Value → mj_H → mj_R} {T : mj_T} {mt : mj_C} {xt : mj_X} {tl : List (FieldType × Nat)} {c0 nL dep : Nat} {ini : Bool} {ret : Option FieldType} {code : Nat → Option (Instr × Nat)} (hcall : mj_keeps call c0) (hS0 : mj_okS0 c0 T) (hN : ∀ x ci fs, T.2.2.2.1 x = some (ci, fs) → ∀ v ∈ fs, ∀ k, v ≠ .ref k) :
    ∀ (n pc : Nat) (L : mj_L) (S : List Value) (h : mj_H) (r : Option Value) (h' : mj_H), mj_run call T mt xt tl c0 nL dep ini ret code n pc L S h = some (r, h') → c0 ≤ h.length → mj_hok h.length h → mj_lok h.length L → mj_sok h.length S → h.length ≤ h'.length ∧ mj_sl h ≤ mj_sl h' ∧ mj_hok h'.length h' ∧ mj_sok h'.length r.toList := by
  intro n
  induction n with
  | zero => intro pc L S h r h' hr; cases hr
  | succ n ih =>
    intro pc L S h r h' hr hc hh hL hS
    unfold mj_run at hr
    split at hr
    · cases hr
    · rename_i i len hcode
      split at hr
      · split at hr
        · split at hr
          · rename_i S' hs
            exact ih _ _ _ _ _ _ hr hc hh hL (mj_alu_ok hs hS)
          · cases hr
        · split at hr
          · rename_i L' S' hs
            obtain ⟨h1, h2⟩ := mj_loc_ok hs hL hS
            exact ih _ _ _ _ _ _ hr hc hh h1 h2
          · cases hr
        · split at hr
          · rename_i t S' hs
            exact ih _ _ _ _ _ _ hr hc hh hL (mj_br_ok hs hS)
          · cases hr
        · split at hr
          · rename_i S' h1 hs
            obtain ⟨a1, a2, a3, a4⟩ := mj_hp_ok hs hS0 hN hc hh hS
            obtain ⟨b1, b2, b3, b4⟩ := ih _ _ _ _ _ _ hr (Nat.le_trans hc a1) a3 (mj_lok_mono a1 hL) a4
            exact ⟨Nat.le_trans a1 b1, Nat.le_trans a2 b2, b3, b4⟩
          · cases hr
        · split at hr
          · rename_i S1 h1 hp
            split at hr
            · obtain ⟨a1, a2, a3, a4⟩ := mj_prim_ok hp hh hS
              obtain ⟨b1, b2, b3, b4⟩ := ih _ _ _ _ _ _ hr (Nat.le_trans hc a1) a3 (mj_lok_mono a1 hL) a4
              exact ⟨Nat.le_trans a1 b1, Nat.le_trans a2 b2, b3, b4⟩
            · cases hr
          · split at hr
            · rename_i As rest hs
              split at hr
              · exact ih _ _ _ _ _ _ hr hc hh hL (mj_inv_ok hs hS).2
              · cases hr
            · rename_i k As rest hs
              split at hr
              · rename_i r1 h1 hk
                obtain ⟨s1, s2⟩ := mj_inv_ok hs hS
                obtain ⟨a1, a2, a3, a4⟩ := hcall _ _ _ _ _ hk hc hh s1
                have hS1 : mj_sok h1.length (r1.toList ++ rest) := fun v hv => (List.mem_append.mp hv).elim (a4 v) (fun q => mj_vok_mono a1 (s2 v q))
                obtain ⟨b1, b2, b3, b4⟩ := ih _ _ _ _ _ _ hr (Nat.le_trans hc a1) a3 (mj_lok_mono a1 hL) hS1
                exact ⟨Nat.le_trans a1 b1, Nat.le_trans a2 b2, b3, b4⟩
              · cases hr
            · cases hr
        · obtain ⟨r1, h1, h2⟩ := mj_map_spec hr
          obtain ⟨rfl, rfl⟩ := Prod.mk.inj h2
          refine ⟨Nat.le_refl _, Nat.le_refl _, hh, ?_⟩
          rw [← mj_ret_S h1]
          exact hS
      · cases hr
theorem mj_args_mem : ∀ (vs : List Value) (i : Nat) (q : Nat × Value), q ∈ lv_args i vs → q.2 ∈ vs := by
  intro vs
  induction vs with
  | nil => intro i q hq; cases hq
  | cons v vs ih =>
    intro i q hq
    rcases List.mem_cons.mp hq with rfl | hq
    · exact List.mem_cons_self
    · exact List.mem_cons_of_mem _ (ih _ q hq)
theorem mj_args_ls (ad : List Nat) : ∀ (vs : List Value) (i : Nat), lv_args i (mj_vs ad vs) = mj_ls ad (lv_args i vs) := by
  intro vs
  induction vs with
  | nil => intro i; rfl
  | cons v vs ih =>
    intro i
    show (i, mj_v ad v) :: lv_args (if (mj_v ad v).category = 2 then i + 2 else i + 1) (mj_vs ad vs) = (i, mj_v ad v) :: mj_ls ad (lv_args (if v.category = 2 then i + 2 else i + 1) vs)
    rw [mj_v_cat, ih]
theorem mj_call_ok {mm : Nat → Option mj_M} {TT : Nat → mj_T × mj_C} {xt : mj_X} {tl : List (FieldType × Nat)} {c0 : Nat} (hS0 : ∀ o, mj_okS0 c0 (TT o).1) (hN : ∀ o x ci fs, (TT o).1.2.2.2.1 x = some (ci, fs) → ∀ v ∈ fs, ∀ k, v ≠ .ref k) : ∀ d N, mj_keeps (mj_call mm TT xt tl c0 d N) c0 := by
  intro d
  induction d with
  | zero => intro N k As h r h' hr; cases hr
  | succ d ih =>
    intro N k As h r h' hr hc hh hA
    unfold mj_call at hr
    split at hr
    · cases hr
    · rename_i M hM
      split at hr
      · exact mj_run_ok (ih N) (hS0 _) (hN _) _ _ _ _ _ _ _ hr hc hh (fun q hq => hA _ (mj_args_mem _ _ _ hq)) (fun v hv => by cases hv)
      · cases hr
