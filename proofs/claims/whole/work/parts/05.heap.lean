/-! mj: fields, arrays, new cells, constants of the pool -/
/-- a class's own tables, by pool numbers: fields (class, place, type; 0 not final, 1 final and its own, 2 final in another class), ints, longs, classes to make (with their first fields), arrays of references to make, statics -/
abbrev mj_T : Type := (Nat → Option (Nat × Nat × FieldType × Nat)) × (Nat → Option Int32) × (Nat → Option Int64) × (Nat → Option (Nat × List Value)) × (Nat → Option Nat) × (Nat → Option Value)
def mj_fit (ty : FieldType) (v : Value) : Bool := match ty, v with
  | .int, .int _ => true
  | .long, .long _ => true
  | .boolean, .int x => x == 0 || x == 1
  | .object _, .ref _ => true
  | .object _, .null => true
  | .array _, .ref _ => true
  | .array _, .null => true
  | _, _ => false
theorem mj_fit_spec {ty : FieldType} {v : Value} (ad : List Nat) (h : mj_fit ty v = true) : narrow ty (mj_v ad v) = mj_v ad v ∧ fits ty (mj_v ad v) = true := by
  unfold mj_fit at h
  split at h
  · exact ⟨rfl, rfl⟩
  · exact ⟨rfl, rfl⟩
  · rename_i x
    have hx : x = 0 ∨ x = 1 := by simpa using h
    rcases hx with rfl | rfl
    · exact ⟨(show narrow .boolean (.int 0) = .int 0 by decide), rfl⟩
    · exact ⟨(show narrow .boolean (.int 1) = .int 1 by decide), rfl⟩
  · exact ⟨rfl, rfl⟩
  · exact ⟨rfl, rfl⟩
  · exact ⟨rfl, rfl⟩
  · exact ⟨rfl, rfl⟩
  · cases h
def mj_gf (T : mj_T) (c0 x : Nat) (S : List Value) (h : mj_H) : Option (List Value × mj_H) := match S with
  | .ref a :: S => match T.1 x with
    | some (ci, k, _, _) => match h[a]? with
      | some (.inr (c, fs)) => if c = ci ∧ c0 ≤ a then (fs[k]?).map fun v => (v :: S, h) else none
      | _ => none
    | none => none
  | _ => none
def mj_pf (T : mj_T) (c0 : Nat) (ini : Bool) (x : Nat) (S : List Value) (h : mj_H) : Option (List Value × mj_H) := match S with
  | v :: .ref a :: S => match T.1 x with
    | some (ci, k, ty, fin) => match h[a]? with
      | some (.inr (c, fs)) => if c = ci ∧ k < fs.length ∧ c0 ≤ a ∧ mj_fit ty v = true ∧ fin ≠ 2 ∧ (fin = 1 → ini = true) then some (S, h.set a (.inr (c, fs.set k v))) else none
      | _ => none
    | none => none
  | _ => none
/-- arrays from without: type, length, contents -/
abbrev mj_X : Type := Nat → Option (FieldType × Nat × (Nat → Value))
def mj_alx (xt : mj_X) (i : Instr) (j : Int32) (a : Nat) (S : List Value) (h : mj_H) : Option (List Value × mj_H) := match xt a with
  | some (ty, n, f) => if j < 0 ∨ n ≤ j.toNatClampNeg then none else match ty, i, f j.toNatClampNeg with
    | .int, .iaload, .int x => some (.int x :: S, h)
    | .long, .laload, .long x => some (.long x :: S, h)
    | .byte, .baload, .int x => some (.int x :: S, h)
    | _, _, _ => none
  | none => none
def mj_ald (xt : mj_X) (tl : List (FieldType × Nat)) (c0 : Nat) (i : Instr) (S : List Value) (h : mj_H) : Option (List Value × mj_H) := match S with
  | .int j :: .ref a :: S => if a < c0 then mj_alx xt i j a S h else match h[a]? with
    | some (.inl (t, n, .inl f)) => if j < 0 ∨ n ≤ j.toNatClampNeg then none else match tl[t]?, i with
      | some (.int, _), .iaload => some (.int (f j.toNatClampNeg) :: S, h)
      | some (.byte, _), .baload => some (.int (f j.toNatClampNeg) :: S, h)
      | some (.boolean, _), .baload => some (.int (f j.toNatClampNeg) :: S, h)
      | _, _ => none
    | some (.inl (t, n, .inr (.inl f))) => if j < 0 ∨ n ≤ j.toNatClampNeg then none else match tl[t]?, i with
      | some (.long, _), .laload => some (.long (f j.toNatClampNeg) :: S, h)
      | _, _ => none
    | some (.inl (t, n, .inr (.inr (.inr (.inr f))))) => if j < 0 ∨ n ≤ j.toNatClampNeg then none else match tl[t]?, i with
      | some (.object _, _), .aaload => some (va_rf (f j.toNatClampNeg) :: S, h)
      | _, _ => none
    | _ => none
  | _ => none
def mj_ast (tl : List (FieldType × Nat)) (c0 : Nat) (i : Instr) (S : List Value) (h : mj_H) : Option (List Value × mj_H) := match S with
  | v :: .int j :: .ref a :: S => if a < c0 then none else match h[a]? with
    | some (.inl (t, n, .inl f)) => if j < 0 ∨ n ≤ j.toNatClampNeg then none else match tl[t]?, i, v with
      | some (.int, _), .iastore, .int x => some (S, h.set a (.inl (t, n, .inl (upd f j.toNatClampNeg x))))
      | some (.byte, _), .bastore, .int x => some (S, h.set a (.inl (t, n, .inl (upd f j.toNatClampNeg (vp_nar .byte x)))))
      | some (.boolean, _), .bastore, .int x => some (S, h.set a (.inl (t, n, .inl (upd f j.toNatClampNeg (vp_nar .boolean x)))))
      | _, _, _ => none
    | some (.inl (t, n, .inr (.inl f))) => if j < 0 ∨ n ≤ j.toNatClampNeg then none else match tl[t]?, i, v with
      | some (.long, _), .lastore, .long x => some (S, h.set a (.inl (t, n, .inr (.inl (vp_updL f j.toNatClampNeg x)))))
      | _, _, _ => none
    | some (.inl (t, n, .inr (.inr (.inr (.inr f))))) => if j < 0 ∨ n ≤ j.toNatClampNeg then none else match tl[t]?, i, v with
      | some (.object _, _), .aastore, .null => some (S, h.set a (.inl (t, n, .inr (.inr (.inr (.inr (va_up f j.toNatClampNeg none)))))))
      | some (.object _, ci), .aastore, .ref b => match h[b]? with
        | some (.inr (c, _)) => if c = ci ∧ c0 ≤ b then some (S, h.set a (.inl (t, n, .inr (.inr (.inr (.inr (va_up f j.toNatClampNeg (some b)))))))) else none
        | _ => none
      | _, _, _ => none
    | _ => none
  | _ => none
def mj_aln (xt : mj_X) (tl : List (FieldType × Nat)) (c0 : Nat) (S : List Value) (h : mj_H) : Option (List Value × mj_H) := match S with
  | .ref a :: S => if a < c0 then (xt a).map fun q => (.int (Int32.ofNat q.2.1) :: S, h) else match h[a]? with
    | some (.inl (t, n, _)) => match tl[t]? with
      | some _ => some (.int (Int32.ofNat n) :: S, h)
      | none => none
    | _ => none
  | _ => none
/-- an array of numbers: its type's place, and what it holds at first -/
def mj_na (aty : ArrayType) : Option (Nat × ((Nat → Int32) ⊕ (Nat → Int64) ⊕ (Nat → UInt32) ⊕ (Nat → UInt64) ⊕ (Nat → Option Nat))) := match aty with
  | .int => some (0, .inl fun _ => 0)
  | .long => some (1, .inr (.inl fun _ => 0))
  | .byte => some (2, .inl fun _ => 0)
  | .boolean => some (3, .inl fun _ => 0)
  | _ => none
def mj_nwa (tl : List (FieldType × Nat)) (aty : ArrayType) (S : List Value) (h : mj_H) : Option (List Value × mj_H) := match S with
  | .int n :: S => match mj_na aty with
    | some (t, f) => if n < 0 ∨ 1000000 < n.toNatClampNeg ∨ (tl[t]?).map (fun q => q.1) ≠ some (newarray.typeOf aty) then none else some (.ref h.length :: S, h ++ [.inl (t, n.toNatClampNeg, f)])
    | none => none
  | _ => none
def mj_nwq (T : mj_T) (x : Nat) (S : List Value) (h : mj_H) : Option (List Value × mj_H) := match S with
  | .int n :: S => match T.2.2.2.2.1 x with
    | some t => if n < 0 ∨ 1000000 < n.toNatClampNeg then none else some (.ref h.length :: S, h ++ [.inl (t, n.toNatClampNeg, .inr (.inr (.inr (.inr fun _ => none))))])
    | none => none
  | _ => none
def mj_nw (T : mj_T) (x : Nat) (S : List Value) (h : mj_H) : Option (List Value × mj_H) := match T.2.2.2.1 x with
  | some (ci, fs) => some (.ref h.length :: S, h ++ [.inr (ci, fs)])
  | none => none
def mj_hp (T : mj_T) (xt : mj_X) (tl : List (FieldType × Nat)) (c0 : Nat) (ini : Bool) (i : Instr) (S : List Value) (h : mj_H) : Option (List Value × mj_H) := match i with
  | .getfield x => mj_gf T c0 x S h
  | .putfield x => mj_pf T c0 ini x S h
  | .iaload => mj_ald xt tl c0 i S h
  | .laload => mj_ald xt tl c0 i S h
  | .baload => mj_ald xt tl c0 i S h
  | .aaload => mj_ald xt tl c0 i S h
  | .iastore => mj_ast tl c0 i S h
  | .lastore => mj_ast tl c0 i S h
  | .bastore => mj_ast tl c0 i S h
  | .aastore => mj_ast tl c0 i S h
  | .arraylength => mj_aln xt tl c0 S h
  | .newarray aty => mj_nwa tl aty S h
  | .anewarray x => mj_nwq T x S h
  | .new x => mj_nw T x S h
  | .ldc x => (T.2.1 x).map fun v => (.int v :: S, h)
  | .ldc_w x => (T.2.1 x).map fun v => (.int v :: S, h)
  | .ldc2_w x => (T.2.2.1 x).map fun v => (.long v :: S, h)
  | .getstatic x => (T.2.2.2.2.2 x).map fun v => (v :: S, h)
  | _ => none
/-- how many slots a cell has -/
def mj_sl1 (e : mj_E) : Nat := match e with
  | .inl (_, n, _) => n
  | .inr (_, fs) => fs.length
def mj_sl (h : mj_H) : Nat := (h.map mj_sl1).sum
/-- what a class's tables rest on: own is its name, Ts the words -/
def mj_okF (Ts : List Cond) (cl : List vw_C) (own : String) (T : mj_T) : Prop := ∀ x ci k ty fin, T.1 x = some (ci, k, ty, fin) → ∃ (C : String) (tb : u_T) (N : Nat) (ty0 : Nat → FieldType), cl[ci]? = some (C, tb, N) ∧ k < N ∧ (∀ w ∈ u_ws C tb N, w ∈ Ts) ∧ (∀ k, k < N → parseFieldDescriptor (tb k).2.2.1 = some (ty0 k)) ∧ (∀ a, a < N → ∀ b, b < N → a ≠ b → (tb a).2.1 ≠ (tb b).2.1) ∧ ty0 k = ty ∧ fin ≤ 2 ∧ (fin = 0 → (tb k).2.2.2 = false) ∧ (fin = 1 → (tb k).2.2.2 = true ∧ (tb k).1 = own) ∧ (Cond.fieldLink own x (tb k).1 (tb k).2.1 (tb k).2.2.1 ∈ Ts ∨ (fin = 0 ∧ ∃ host, Cond.fieldLinkNest own x (tb k).1 (tb k).2.1 (tb k).2.2.1 host ∈ Ts))
def mj_okC (Ts : List Cond) (own : String) (T : mj_T) : Prop := (∀ x v, T.2.1 x = some v → Cond.constant own x v ∈ Ts) ∧ ∀ x v, T.2.2.1 x = some v → Cond.constantLong own x v ∈ Ts
def mj_okN (Ts : List Cond) (cl : List vw_C) (own : String) (T : mj_T) : Prop := ∀ x ci fs, T.2.2.2.1 x = some (ci, fs) → ∃ (C : String) (tb : u_T) (N : Nat) (ty0 : Nat → FieldType), cl[ci]? = some (C, tb, N) ∧ (∀ w ∈ u_ws C tb N, w ∈ Ts) ∧ (∀ k, k < N → parseFieldDescriptor (tb k).2.2.1 = some (ty0 k)) ∧ Cond.classLink own x C ∈ Ts ∧ Cond.instantiable C N ∈ Ts ∧ Cond.initialized C ∈ Ts ∧ (∀ j, j < N → defaultValue (ty0 j) = vp_V fs j) ∧ fs.length = N ∧ ∀ v ∈ fs, ∀ k, v ≠ .ref k
def mj_okA (Ts : List Cond) (cl : List vw_C) (tl : List (FieldType × Nat)) (own : String) (T : mj_T) : Prop := (∀ x t, T.2.2.2.2.1 x = some t → ∃ (C : String) (ci : Nat), tl[t]? = some (FieldType.object C, ci) ∧ Cond.classLink own x C ∈ Ts ∧ Cond.arrayOver (FieldType.object C) ∈ Ts) ∧ (∀ (t : Nat) (C : String) (ci : Nat), tl[t]? = some (FieldType.object C, ci) → ∃ r : vw_C, cl[ci]? = some r ∧ r.1 = C) ∧ ∀ aty : ArrayType, mj_na aty ≠ none → Cond.arrayClass (newarray.typeOf aty) ∈ Ts
/-- what the arrays from without rest on -/
def mj_Xok (xt : mj_X) (c0 : Nat) (xa : Nat → Nat) (A : Nat → Prop) (U : State) (H : Heap) : Prop := ∀ k ty n f, xt k = some (ty, n, f) → k < c0 ∧ va_T ty (xa k) n f A U H
