/-! mj: a program's tables as lists with the places of their words; a check by evaluation gives all that a program rests on -/
def mj_look {α : Type} (L : List (Nat × α)) (x : Nat) : Option α := (L.find? (fun q => q.1 == x)).map (fun q => q.2)
theorem mj_look_mem {α : Type} {L : List (Nat × α)} {x : Nat} {v : α} (h : mj_look L x = some v) : (x, v) ∈ L := by
  unfold mj_look at h
  obtain ⟨q, hq, rfl⟩ := mj_map_spec h
  have h1 := List.find?_some hq
  have h3 : q.1 = x := by simpa using h1
  rw [← h3]
  exact List.mem_of_find?_eq_some hq
/-- classes: name, fields, how many, their types -/
abbrev mj_Q : Type := String × u_T × Nat × (Nat → FieldType)
def mj_cl (c5 : List mj_Q) : List vw_C := c5.map fun q => (q.1, q.2.1, q.2.2.1)
def mj_okQ (Ts : List Cond) (c5 : List mj_Q) : Prop := ∀ q ∈ c5, (∀ w ∈ u_ws q.1 q.2.1 q.2.2.1, w ∈ Ts) ∧ (∀ k, k < q.2.2.1 → parseFieldDescriptor (q.2.1 k).2.2.1 = some (q.2.2.2 k)) ∧ ∀ a, a < q.2.2.1 → ∀ b, b < q.2.2.1 → a ≠ b → (q.2.1 a).2.1 ≠ (q.2.1 b).2.1
theorem mj_cl_get {c5 : List mj_Q} {ci : Nat} {q : mj_Q} (h : c5[ci]? = some q) : (mj_cl c5)[ci]? = some (q.1, q.2.1, q.2.2.1) := by
  unfold mj_cl
  rw [List.getElem?_map, h]
  rfl
/-- a class's lists: fields, ints, longs, classes to make, arrays of references to make, statics (from a nest mate?), calls (of a nest mate?) -/
abbrev mj_TL : Type := List (Nat × Nat × Nat × FieldType × Nat) × List (Nat × Int32) × List (Nat × Int64) × List (Nat × Nat × List Value) × List (Nat × Nat) × List (Nat × Nat × Bool) × List (Nat × (Nat × Nat × Nat × Nat) × Bool)
def mj_tab (L : mj_TL) : mj_T × mj_C := ((mj_look L.1, mj_look L.2.1, mj_look L.2.2.1, mj_look L.2.2.2.1, mj_look L.2.2.2.2.1, fun x => (mj_look L.2.2.2.2.2.1 x).map fun q => .ref q.1), fun x => (mj_look L.2.2.2.2.2.2 x).map fun q => q.1)
/-- a method as the list has it: name, bytes, locals, what it answers, its class's number, is it a constructor; what it is (1 virtual, 2 static, 3 constructor), its class, how many arguments -/
abbrev mj_MS : Type := (MethodName × ByteArray × Nat × Option FieldType × Nat × Bool) × Nat × Nat × Nat
/-- the instructions are what decode tells -/
def mj_dec (cc : ByteArray) (pc : Nat) : Option (Instr × Nat) := match decode cc pc with
  | .ok q => some q
  | .error _ => none
theorem mj_dec_ok {cc : ByteArray} {pc : Nat} {i : Instr} {len : Nat} (h : mj_dec cc pc = some (i, len)) : decode cc pc = .ok (i, len) := by
  unfold mj_dec at h
  split at h
  · rename_i q hq; cases h; exact hq
  · cases h
def mj_mk (q : mj_MS) : mj_M := ((q.1.1, q.1.2.1, q.1.2.2.1, q.1.2.2.2.1), q.1.2.2.2.2.1, q.1.2.2.2.2.2, mj_dec q.1.2.1)
def mj_mmof (ms : List mj_MS) (k : Nat) : Option mj_M := (ms[k]?).map mj_mk
-- the words that are wanted
def mj_wF (c5 : List mj_Q) (own : String) (q : Nat × Nat × Nat × FieldType × Nat) : List Cond := match c5[q.2.1]? with
  | some c => [Cond.fieldLink own q.1 (c.2.1 q.2.2.1).1 (c.2.1 q.2.2.1).2.1 (c.2.1 q.2.2.1).2.2.1]
  | none => []
def mj_wN (c5 : List mj_Q) (own : String) (q : Nat × Nat × List Value) : List Cond := match c5[q.2.1]? with
  | some c => [Cond.classLink own q.1 c.1, Cond.instantiable c.1 c.2.2.1, Cond.initialized c.1]
  | none => []
def mj_wA (tl : List (FieldType × Nat)) (own : String) (q : Nat × Nat) : List Cond := match tl[q.2]? with
  | some (.object C, _) => [Cond.classLink own q.1 C, Cond.arrayOver (FieldType.object C)]
  | _ => []
def mj_wS (zl : List (Nat × String × String × String)) (own host : String) (q : Nat × Nat × Bool) : List Cond := match mj_look zl q.2.1 with
  | some z => if q.2.2 = true then [Cond.fieldLinkNest own q.1 z.1 z.2.1 z.2.2 host] else [Cond.fieldLink own q.1 z.1 z.2.1 z.2.2]
  | none => []
def mj_wL (ms : List mj_MS) (own host : String) (q : Nat × (Nat × Nat × Nat × Nat) × Bool) : List Cond := match q.2.1.1 with
  | 0 => [Cond.methodLink own q.1 objectInit]
  | 4 => mj_pw own q.1 q.2.1.2.1
  | _ => match ms[q.2.1.2.1]? with
    | some M => if q.2.2 = true then [Cond.methodLinkNest own q.1 M.1.1 host] else [Cond.methodLink own q.1 M.1.1]
    | none => []
def mj_wT (c5 : List mj_Q) (tl : List (FieldType × Nat)) (zl : List (Nat × String × String × String)) (ms : List mj_MS) (host : String) (q : String × mj_TL) : List Cond :=
  q.2.1.flatMap (mj_wF c5 q.1) ++ (q.2.2.1.map (fun z => Cond.constant q.1 z.1 z.2) ++ (q.2.2.2.1.map (fun z => Cond.constantLong q.1 z.1 z.2) ++ (q.2.2.2.2.1.flatMap (mj_wN c5 q.1) ++ (q.2.2.2.2.2.1.flatMap (mj_wA tl q.1) ++ (q.2.2.2.2.2.2.1.flatMap (mj_wS zl q.1 host) ++ q.2.2.2.2.2.2.2.flatMap (mj_wL ms q.1 host))))))
def mj_wM (c5 : List mj_Q) (q : mj_MS) : List Cond := Cond.code q.1.1 q.1.2.1 q.1.2.2.1 q.1.2.2.2.1 :: Cond.initialized q.1.1.cls :: (match q.2.1 with
  | 1 => Cond.instanceMethod q.1.1 :: (match c5[q.2.2.1]? with
    | some c => [Cond.selects c.1 q.1.1 q.1.1]
    | none => [])
  | 2 => [Cond.static q.1.1]
  | _ => [Cond.instanceMethod q.1.1])
def mj_w0 : List Cond := [Cond.arrayClass .int, Cond.arrayClass .long, Cond.arrayClass .byte, Cond.arrayClass .boolean, Cond.instanceMethod objectInit, Cond.code objectInit ⟨#[0xb1]⟩ 1 none]
def mj_Ts (c5 : List mj_Q) (tl : List (FieldType × Nat)) (zl : List (Nat × String × String × String)) (ms : List mj_MS) (host : String) (TL : List (String × mj_TL)) : List Cond :=
  mj_w0 ++ (c5.flatMap (fun q => u_ws q.1 q.2.1 q.2.2.1) ++ (ms.flatMap (mj_wM c5) ++ TL.flatMap (mj_wT c5 tl zl ms host)))
-- what is checked by evaluation
def mj_chQ2 (q : mj_Q) : Bool := ((List.range q.2.2.1).all fun k => decide (parseFieldDescriptor (q.2.1 k).2.2.1 = some (q.2.2.2 k))) && (List.range q.2.2.1).all fun a => (List.range q.2.2.1).all fun b => decide (a = b) || decide ((q.2.1 a).2.1 ≠ (q.2.1 b).2.1)
def mj_chF (c5 : List mj_Q) (own : String) (q : Nat × Nat × Nat × FieldType × Nat) : Bool := match c5[q.2.1]? with
  | some c => decide (q.2.2.1 < c.2.2.1) && (decide (c.2.2.2 q.2.2.1 = q.2.2.2.1) && (match q.2.2.2.2 with
    | 0 => !(c.2.1 q.2.2.1).2.2.2
    | 1 => (c.2.1 q.2.2.1).2.2.2 && decide ((c.2.1 q.2.2.1).1 = own)
    | 2 => true
    | _ => false))
  | none => false
def mj_noref (v : Value) : Bool := match v with
  | .ref _ => false
  | _ => true
def mj_chN (c5 : List mj_Q) (q : Nat × Nat × List Value) : Bool := match c5[q.2.1]? with
  | some c => decide (q.2.2.length = c.2.2.1) && (q.2.2.all mj_noref && (List.range c.2.2.1).all fun j => decide (defaultValue (c.2.2.2 j) = vp_V q.2.2 j))
  | none => false
def mj_chA (tl : List (FieldType × Nat)) (q : Nat × Nat) : Bool := match tl[q.2]? with
  | some (.object _, _) => true
  | _ => false
def mj_chS (zl : List (Nat × String × String × String)) (c0 : Nat) (q : Nat × Nat × Bool) : Bool := decide (q.2.1 < c0) && (mj_look zl q.2.1).isSome
def mj_chL (ms : List mj_MS) (q : Nat × (Nat × Nat × Nat × Nat) × Bool) : Bool := match q.2.1.1 with
  | 0 => true
  | 4 => true
  | kd => match ms[q.2.1.2.1]? with
    | some M => decide (M.2.1 = kd) && (decide (M.2.2.2 = q.2.1.2.2.1) && decide (M.2.2.1 = q.2.1.2.2.2))
    | none => false
def mj_chT1 (c5 : List mj_Q) (tl : List (FieldType × Nat)) (zl : List (Nat × String × String × String)) (ms : List mj_MS) (c0 : Nat) (q : String × mj_TL) : Bool :=
  q.2.1.all (mj_chF c5 q.1) && (q.2.2.2.2.1.all (mj_chN c5) && (q.2.2.2.2.2.1.all (mj_chA tl) && (q.2.2.2.2.2.2.1.all (mj_chS zl c0) && q.2.2.2.2.2.2.2.all (mj_chL ms))))
def mj_chtl (c5 : List mj_Q) (tl : List (FieldType × Nat)) : Bool := tl.all fun q => match q.1 with
  | .object C => match c5[q.2]? with
    | some c => decide (c.1 = C)
    | none => false
  | _ => true
def mj_chM (c5 : List mj_Q) (TL : List (String × mj_TL)) (q : mj_MS) : Bool := decide (q.1.1.cls ≠ "java/lang/invoke/MethodHandle") && (decide (q.1.1.cls ≠ "java/lang/invoke/VarHandle") && (decide ((parseMethodDescriptor q.1.1.desc).map (fun d => d.parameters.length) = some q.2.2.2) && (decide (q.1.2.2.1 ≤ 21) && (plainName q.1.1.cls && (decide ((TL[q.1.2.2.2.2.1]?).map (fun z => z.1) = some q.1.1.cls) && ((!q.1.2.2.2.2.2 || decide (q.1.1.name = "<init>")) && (match q.2.1 with
  | 1 => (c5[q.2.2.1]?).isSome
  | 2 => true
  | 3 => decide (q.1.1.name = "<init>") && decide (q.1.2.2.2.1 = none)
  | _ => false)))))))
