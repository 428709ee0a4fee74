/-! mj: a program's tables as lists with the places of their words; a check by evaluation gives all that a program rests on -/
def mj_look {α : Type} (L : List (Nat × α)) (x : Nat) : Option α := (L.find? (fun q => q.1 == x)).map (fun q => q.2)
theorem mj_look_mem {α : Type} {L : List (Nat × α)} {x : Nat} {v : α} (h : mj_look L x = some v) : (x, v) ∈ L := by
  unfold mj_look at h
  obtain ⟨q, hq, rfl⟩ := mj_map_spec h
  have h1 := List.find?_some hq
  have h3 : q.1 = x := by simpa using h1
  rw [← h3]
  exact List.mem_of_find?_eq_some hq
/-- classes: name, fields, how many, their types -/
abbrev mj_Q : Type := String × u_T × Nat × (Nat → FieldType)
def mj_cl (c5 : List mj_Q) : List vw_C := c5.map fun q => (q.1, q.2.1, q.2.2.1)
def mj_okQ (Ts : List Cond) (c5 : List mj_Q) : Prop := ∀ q ∈ c5, (∀ w ∈ u_ws q.1 q.2.1 q.2.2.1, w ∈ Ts) ∧ (∀ k, k < q.2.2.1 → parseFieldDescriptor (q.2.1 k).2.2.1 = some (q.2.2.2 k)) ∧ ∀ a, a < q.2.2.1 → ∀ b, b < q.2.2.1 → a ≠ b → (q.2.1 a).2.1 ≠ (q.2.1 b).2.1
theorem mj_cl_get {c5 : List mj_Q} {ci : Nat} {q : mj_Q} (h : c5[ci]? = some q) : (mj_cl c5)[ci]? = some (q.1, q.2.1, q.2.2.1) := by
  unfold mj_cl
  rw [List.getElem?_map, h]
  rfl
def mj_in (Ts : List Cond) (i : Nat) (w : Cond) : Bool := decide (Ts[i]? = some w)
theorem mj_in_mem {Ts : List Cond} {i : Nat} {w : Cond} (h : mj_in Ts i w = true) : w ∈ Ts := List.mem_of_getElem? (of_decide_eq_true h)
/-- a class's lists: fields, ints, longs, classes to make, arrays of references to make, statics, calls; behind each the places of its words -/
abbrev mj_TL : Type := List (Nat × (Nat × Nat × FieldType × Bool) × Nat) × List (Nat × Int32 × Nat) × List (Nat × Int64 × Nat) × List (Nat × (Nat × List Value) × Nat × Nat × Nat) × List (Nat × Nat × Nat × Nat) × List (Nat × Nat × Nat) × List (Nat × (Nat × Nat × Nat × Nat) × Nat)
def mj_tab (L : mj_TL) : mj_T × mj_C := (((fun x => (mj_look L.1 x).map fun q => q.1), (fun x => (mj_look L.2.1 x).map fun q => q.1), (fun x => (mj_look L.2.2.1 x).map fun q => q.1), (fun x => (mj_look L.2.2.2.1 x).map fun q => q.1), (fun x => (mj_look L.2.2.2.2.1 x).map fun q => q.1), (fun x => (mj_look L.2.2.2.2.2.1 x).map fun q => .ref q.1)), fun x => (mj_look L.2.2.2.2.2.2 x).map fun q => q.1)
def mj_chF (Ts : List Cond) (c5 : List mj_Q) (own : String) (L : List (Nat × (Nat × Nat × FieldType × Bool) × Nat)) : Bool := L.all fun q => match c5[q.2.1.1]? with
  | some c => decide (q.2.1.2.1 < c.2.2.1) && (decide (c.2.2.2 q.2.1.2.1 = q.2.1.2.2.1) && (decide ((c.2.1 q.2.1.2.1).2.2.2 = q.2.1.2.2.2) && ((!q.2.1.2.2.2 || decide ((c.2.1 q.2.1.2.1).1 = own)) && mj_in Ts q.2.2 (Cond.fieldLink own q.1 (c.2.1 q.2.1.2.1).1 (c.2.1 q.2.1.2.1).2.1 (c.2.1 q.2.1.2.1).2.2.1))))
  | none => false
theorem mj_chF_ok {Ts : List Cond} {c5 : List mj_Q} {own : String} {L : mj_TL} (hQ : mj_okQ Ts c5) (h : mj_chF Ts c5 own L.1 = true) : mj_okF Ts (mj_cl c5) own (mj_tab L).1 := by
  intro x ci k ty fin hx
  obtain ⟨q, hq, h2⟩ := mj_map_spec hx
  have hm := mj_look_mem hq
  have h3 := List.all_eq_true.mp h _ hm
  obtain ⟨q1, q2⟩ := q
  cases h2
  dsimp only at h3
  cases hc : c5[ci]? with
  | none => rw [hc] at h3; cases h3
  | some c =>
    rw [hc] at h3
    simp only [Bool.and_eq_true, decide_eq_true_eq, Bool.or_eq_true, Bool.not_eq_true'] at h3
    obtain ⟨a1, a2, a3, a4, a5⟩ := h3
    obtain ⟨b1, b2, b3⟩ := hQ c (List.mem_of_getElem? hc)
    refine ⟨c.1, c.2.1, c.2.2.1, c.2.2.2, mj_cl_get hc, a1, b1, b2, b3, a2, a3, fun z => ?_, Or.inl (mj_in_mem a5)⟩
    rcases a4 with a4 | a4
    · rw [z] at a4; cases a4
    · exact a4
def mj_chC (Ts : List Cond) (own : String) (L : mj_TL) : Bool := (L.2.1.all fun q => mj_in Ts q.2.2 (Cond.constant own q.1 q.2.1)) && L.2.2.1.all fun q => mj_in Ts q.2.2 (Cond.constantLong own q.1 q.2.1)
theorem mj_chC_ok {Ts : List Cond} {own : String} {L : mj_TL} (h : mj_chC Ts own L = true) : mj_okC Ts own (mj_tab L).1 := by
  unfold mj_chC at h
  rw [Bool.and_eq_true] at h
  refine ⟨fun x v hx => ?_, fun x v hx => ?_⟩
  · obtain ⟨q, hq, rfl⟩ := mj_map_spec hx
    exact mj_in_mem (List.all_eq_true.mp h.1 _ (mj_look_mem hq))
  · obtain ⟨q, hq, rfl⟩ := mj_map_spec hx
    exact mj_in_mem (List.all_eq_true.mp h.2 _ (mj_look_mem hq))
def mj_noref (v : Value) : Bool := match v with
  | .ref _ => false
  | _ => true
def mj_chN (Ts : List Cond) (c5 : List mj_Q) (own : String) (L : List (Nat × (Nat × List Value) × Nat × Nat × Nat)) : Bool := L.all fun q => match c5[q.2.1.1]? with
  | some c => mj_in Ts q.2.2.1 (Cond.classLink own q.1 c.1) && (mj_in Ts q.2.2.2.1 (Cond.instantiable c.1 c.2.2.1) && (mj_in Ts q.2.2.2.2 (Cond.initialized c.1) && (decide (q.2.1.2.length = c.2.2.1) && (q.2.1.2.all mj_noref && (List.range c.2.2.1).all fun j => decide (defaultValue (c.2.2.2 j) = vp_V q.2.1.2 j)))))
  | none => false
theorem mj_chN_ok {Ts : List Cond} {c5 : List mj_Q} {own : String} {L : mj_TL} (hQ : mj_okQ Ts c5) (h : mj_chN Ts c5 own L.2.2.2.1 = true) : mj_okN Ts (mj_cl c5) own (mj_tab L).1 := by
  intro x ci fs hx
  obtain ⟨q, hq, h2⟩ := mj_map_spec hx
  have h3 := List.all_eq_true.mp h _ (mj_look_mem hq)
  obtain ⟨q1, q2⟩ := q
  cases h2
  dsimp only at h3
  cases hc : c5[ci]? with
  | none => rw [hc] at h3; cases h3
  | some c =>
    rw [hc] at h3
    simp only [Bool.and_eq_true, decide_eq_true_eq] at h3
    obtain ⟨a1, a2, a3, a4, a5, a6⟩ := h3
    obtain ⟨b1, b2, b3⟩ := hQ c (List.mem_of_getElem? hc)
    refine ⟨c.1, c.2.1, c.2.2.1, c.2.2.2, mj_cl_get hc, b1, b2, mj_in_mem a1, mj_in_mem a2, mj_in_mem a3, fun j hj => ?_, a4, fun v hv k z => ?_⟩
    · exact of_decide_eq_true (List.all_eq_true.mp a6 j (List.mem_range.mpr hj))
    · have h4 := List.all_eq_true.mp a5 v hv
      rw [z] at h4
      cases h4
def mj_chA (Ts : List Cond) (c5 : List mj_Q) (tl : List (FieldType × Nat)) (own : String) (L : List (Nat × Nat × Nat × Nat)) : Bool := L.all fun q => match tl[q.2.1]? with
  | some (.object C, _) => mj_in Ts q.2.2.1 (Cond.classLink own q.1 C) && mj_in Ts q.2.2.2 (Cond.arrayOver (FieldType.object C))
  | _ => false
/-- the arrays' types: those of numbers, those of references with their class -/
def mj_chT (Ts : List Cond) (c5 : List mj_Q) (tl : List (FieldType × Nat)) (is : List Nat) : Bool := (tl.all fun q => match q.1 with
  | .object C => match c5[q.2]? with
    | some c => decide (c.1 = C)
    | none => false
  | _ => true) && (mj_in Ts (is.getD 0 0) (Cond.arrayClass .int) && (mj_in Ts (is.getD 1 0) (Cond.arrayClass .long) && (mj_in Ts (is.getD 2 0) (Cond.arrayClass .byte) && mj_in Ts (is.getD 3 0) (Cond.arrayClass .boolean))))
theorem mj_chA_ok {Ts : List Cond} {c5 : List mj_Q} {tl : List (FieldType × Nat)} {own : String} {L : mj_TL} {is : List Nat} (hT : mj_chT Ts c5 tl is = true) (h : mj_chA Ts c5 tl own L.2.2.2.2.1 = true) : mj_okA Ts (mj_cl c5) tl own (mj_tab L).1 := by
  unfold mj_chT at hT
  simp only [Bool.and_eq_true] at hT
  obtain ⟨t1, t2, t3, t4, t5⟩ := hT
  refine ⟨fun x t hx => ?_, fun t C ci ht => ?_, fun aty ha => ?_⟩
  · obtain ⟨q, hq, rfl⟩ := mj_map_spec hx
    have h3 := List.all_eq_true.mp h _ (mj_look_mem hq)
    dsimp only at h3
    split at h3
    · rename_i C ci hC
      rw [Bool.and_eq_true] at h3
      exact ⟨C, ci, hC, mj_in_mem h3.1, mj_in_mem h3.2⟩
    · cases h3
  · have h3 := List.all_eq_true.mp t1 _ (List.mem_of_getElem? ht)
    dsimp only at h3
    cases hc : c5[ci]? with
    | none => rw [hc] at h3; cases h3
    | some c =>
      rw [hc] at h3
      exact ⟨_, mj_cl_get hc, of_decide_eq_true h3⟩
  · cases aty <;> first | exact absurd rfl ha | exact mj_in_mem t2 | exact mj_in_mem t3 | exact mj_in_mem t4 | exact mj_in_mem t5
/-- a method's row: the method, the places of its code's word and of its class's, what it is (1 virtual, 2 static, 3 constructor), the place of that word, the place of 'selects', its class, how many arguments -/
abbrev mj_MR : Type := mj_M × Nat × Nat × Nat × Nat × Nat × Nat × Nat
def mj_chM1 (Ts : List Cond) (c5 : List mj_Q) (q : mj_MR) : Bool := mj_in Ts q.2.1 (Cond.code q.1.1.1 q.1.1.2.1 q.1.1.2.2.1 q.1.1.2.2.2) && (mj_in Ts q.2.2.1 (Cond.initialized q.1.1.1.cls) && (decide (q.1.1.1.cls ≠ "java/lang/invoke/MethodHandle") && (decide (q.1.1.1.cls ≠ "java/lang/invoke/VarHandle") && (decide ((parseMethodDescriptor q.1.1.1.desc).map (fun d => d.parameters.length) = some q.2.2.2.2.2.2.2) && (decide (q.1.1.2.2.1 ≤ 21) && (match q.2.2.2.1 with
  | 1 => mj_in Ts q.2.2.2.2.1 (Cond.instanceMethod q.1.1.1) && match c5[q.2.2.2.2.2.2.1]? with
    | some c => mj_in Ts q.2.2.2.2.2.1 (Cond.selects c.1 q.1.1.1 q.1.1.1)
    | none => false
  | 2 => mj_in Ts q.2.2.2.2.1 (Cond.static q.1.1.1)
  | 3 => mj_in Ts q.2.2.2.2.1 (Cond.instanceMethod q.1.1.1) && (decide (q.1.1.1.name = "<init>") && decide (q.1.1.2.2.2 = none))
  | _ => false))))))
def mj_chL (Ts : List Cond) (own host : String) (ms : List mj_MR) (L : List (Nat × (Nat × Nat × Nat × Nat) × Nat)) : Bool := L.all fun q => match q.2.1.1 with
  | 0 => mj_in Ts q.2.2 (Cond.methodLink own q.1 objectInit)
  | kd => match ms[q.2.1.2.1]? with
    | some M => decide (M.2.2.2.1 = kd) && (decide (M.2.2.2.2.2.2.2 = q.2.1.2.2.1) && (decide (M.2.2.2.2.2.2.1 = q.2.1.2.2.2) && (mj_in Ts q.2.2 (Cond.methodLink own q.1 M.1.1.1) || mj_in Ts q.2.2 (Cond.methodLinkNest own q.1 M.1.1.1 host))))
    | none => false
theorem mj_chL_ok {Ts : List Cond} {c5 : List mj_Q} {own host : String} {ms : List mj_MR} {L : mj_TL} {i1 i2 : Nat} (h1 : mj_in Ts i1 (Cond.instanceMethod objectInit) = true) (h2 : mj_in Ts i2 (Cond.code objectInit ⟨#[0xb1]⟩ 1 none) = true) (hm : ms.all (mj_chM1 Ts c5) = true) (h : mj_chL Ts own host ms L.2.2.2.2.2.2 = true) : mj_okM Ts (mj_cl c5) own (mj_tab L).2 (fun k => (ms[k]?).map fun q => q.1) := by
  intro x kd k n ci hx
  obtain ⟨q, hq, h4⟩ := mj_map_spec hx
  have h3 := List.all_eq_true.mp h _ (mj_look_mem hq)
  obtain ⟨q1, q2⟩ := q
  cases h4
  dsimp only at h3
  refine ⟨fun z => ?_, fun z => ?_⟩
  · rw [z] at h3
    exact ⟨mj_in_mem h3, mj_in_mem h1, mj_in_mem h2⟩
  · split at h3
    · exact absurd rfl z
    · cases hM : ms[k]? with
      | none => rw [hM] at h3; cases h3
      | some M =>
        rw [hM] at h3
        simp only [Bool.and_eq_true, decide_eq_true_eq, Bool.or_eq_true] at h3
        obtain ⟨e1, e2, e3, e4⟩ := h3
        have h5 := List.all_eq_true.mp hm _ (List.mem_of_getElem? hM)
        unfold mj_chM1 at h5
        simp only [Bool.and_eq_true, decide_eq_true_eq] at h5
        obtain ⟨f1, f2, f3, f4, f5, f6, f7⟩ := h5
        rw [e2] at f5
        refine ⟨M.1, (show (ms[k]?).map (fun q => q.1) = some M.1 by rw [hM]; rfl), mj_in_mem f1, mj_in_mem f2, ⟨f3, f4, f5⟩, f6, e4.elim (fun q => Or.inl (mj_in_mem q)) (fun q => Or.inr ⟨host, mj_in_mem q⟩), fun y => ?_, fun y => ?_, fun y => ?_⟩
        · rw [e1, y] at f7
          have f7 := Bool.and_eq_true_iff.mp f7
          refine ⟨mj_in_mem f7.1, ?_⟩
          have f8 := f7.2
          rw [e3] at f8
          cases hc : c5[ci]? with
          | none => rw [hc] at f8; cases f8
          | some c =>
            rw [hc] at f8
            exact ⟨_, mj_cl_get hc, mj_in_mem f8⟩
        · rw [e1, y] at f7
          exact mj_in_mem f7
        · rw [e1, y] at f7
          simp only [Bool.and_eq_true, decide_eq_true_eq] at f7
          exact ⟨mj_in_mem f7.1, f7.2.1, f7.2.2⟩
/-- the instructions are what decode tells -/
def mj_dec (cc : ByteArray) (pc : Nat) : Option (Instr × Nat) := match decode cc pc with
  | .ok q => some q
  | .error _ => none
theorem mj_dec_ok {cc : ByteArray} {pc : Nat} {i : Instr} {len : Nat} (h : mj_dec cc pc = some (i, len)) : decode cc pc = .ok (i, len) := by
  unfold mj_dec at h
  split at h
  · rename_i q hq; cases h; exact hq
  · cases h
