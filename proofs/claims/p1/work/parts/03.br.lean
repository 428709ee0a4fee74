/-! mj: branches -/
def mj_cnd (k : Jvm.ClassFile.Cond) (x y : Int32) : Bool := match k with
  | .eq => decide (x = y)
  | .ne => !decide (x = y)
  | .lt => decide (x < y)
  | .ge => decide (y ≤ x)
  | .gt => decide (y < x)
  | .le => decide (x ≤ y)
def mj_to (pc : Nat) (off : Int) : Option Nat := if 0 ≤ (pc : Int) + off then some ((pc : Int) + off).toNat else none
theorem mj_to_spec {pc t : Nat} {off : Int} (h : mj_to pc off = some t) : (pc : Int) + off = (t : Int) := by
  unfold mj_to at h
  split at h
  · rename_i h0
    cases h
    exact (Int.toNat_of_nonneg h0).symm
  · cases h
def mj_if1 (pc : Nat) (k : Jvm.ClassFile.Cond) (off : Int) (S : List Value) : Option (Nat × List Value) := match S with
  | .int x :: S => (mj_to pc off).map fun t => (if mj_cnd k x 0 = true then t else pc + 3, S)
  | _ => none
def mj_if2 (pc : Nat) (k : Jvm.ClassFile.Cond) (off : Int) (S : List Value) : Option (Nat × List Value) := match S with
  | .int y :: .int x :: S => (mj_to pc off).map fun t => (if mj_cnd k x y = true then t else pc + 3, S)
  | _ => none
def mj_ifn (pc : Nat) (off : Int) (S : List Value) : Option (Nat × List Value) := match S with
  | .null :: S => (mj_to pc off).map fun t => (t, S)
  | .ref _ :: S => some (pc + 3, S)
  | _ => none
def mj_ifnn (pc : Nat) (off : Int) (S : List Value) : Option (Nat × List Value) := match S with
  | .ref _ :: S => (mj_to pc off).map fun t => (t, S)
  | .null :: S => some (pc + 3, S)
  | _ => none
def mj_tsw (pc : Nat) (d lo hi : Int) (offs : Array Int) (S : List Value) : Option (Nat × List Value) := match S with
  | .int x :: S => if x.toInt < lo ∨ hi < x.toInt then (mj_to pc d).map fun t => (t, S) else match offs[(x.toInt - lo).toNat]? with
    | some o => (mj_to pc o).map fun t => (t, S)
    | none => none
  | _ => none
def mj_lsw (pc : Nat) (d : Int) (ps : Array (Int × Int)) (S : List Value) : Option (Nat × List Value) := match S with
  | .int x :: S => if (ps.toList.zip (ps.toList.drop 1)).all (fun (a, next) => a.1 < next.1) = true then (mj_to pc (Op.lookupswitch.offset ps.toList d x.toInt)).map fun t => (t, S) else none
  | _ => none
def mj_br (pc : Nat) (i : Instr) (S : List Value) : Option (Nat × List Value) := match i with
  | .goto off => (mj_to pc off).map fun t => (t, S)
  | .ifCond k off => mj_if1 pc k off S
  | .if_icmp k off => mj_if2 pc k off S
  | .ifnull off => mj_ifn pc off S
  | .ifnonnull off => mj_ifnn pc off S
  | .tableswitch d lo hi offs => mj_tsw pc d lo hi offs S
  | .lookupswitch d ps => mj_lsw pc d ps S
  | _ => none
/-- switches are as long as they are; all else has its length -/
def mj_lenOk (i : Instr) (len : Nat) : Bool := match i with
  | .tableswitch _ _ _ _ => true
  | .lookupswitch _ _ => true
  | i => len == mj_len i
theorem mj_map_spec {α β : Type} {o : Option α} {f : α → β} {b : β} (h : o.map f = some b) : ∃ a, o = some a ∧ f a = b := by
  cases o with
  | none => cases h
  | some a => cases h; exact ⟨a, rfl, rfl⟩
section MJ3
variable {p : Program} {l : Launch} {e : Env} {R : Room} {s : State} {m : MethodId} {args : Array Value} {below : List Frame} {meth : Method} {c : Code} {H : Heap} {locs : List Loc} {cells slots : Nat} {Q : State → Prop}
variable {cc : ByteArray} {pc : Nat} {ls : Array Slot} {ad : List Nat}
set_option maxHeartbeats 4000000 in
theorem mj_br_W (hx : p.tables.exec = Jvm.exec) (hb : c.code = cc) {i : Instr} {S S' : List Value} {t len : Nat} (h : mj_br pc i S = some (t, S')) (hdg : decode cc pc = .ok (i, len)) (hlen : mj_lenOk i len = true)
    (kk : W p l e R s m args below meth c H locs cells slots Q (F0 m t ls (mj_vs ad S'))) : W p l e R s m args below meth c H locs cells slots Q (F0 m pc ls (mj_vs ad S)) := by
  unfold mj_br at h
  split at h
  case h_1 off =>
    have e1 : len = 3 := by simpa [mj_lenOk, mj_len] using hlen
    subst e1
    obtain ⟨t1, h1, h2⟩ := mj_map_spec h
    cases h2
    exact lv_goto hx hb hdg (mj_to_spec h1) kk
  case h_2 k off =>
    have e1 : len = 3 := by simpa [mj_lenOk, mj_len] using hlen
    subst e1
    unfold mj_if1 at h
    split at h
    · rename_i x S0
      obtain ⟨t1, h1, h2⟩ := mj_map_spec h
      obtain ⟨rfl, rfl⟩ := Prod.mk.inj h2
      have ht := mj_to_spec h1
      have kt : mj_cnd k x 0 = true → W p l e R s m args below meth c H locs cells slots Q (F0 m t1 ls (mj_vs ad S0)) := fun q => by rw [if_pos q] at kk; exact kk
      have kf : ¬ mj_cnd k x 0 = true → W p l e R s m args below meth c H locs cells slots Q (F0 m (pc + 3) ls (mj_vs ad S0)) := fun q => by rw [if_neg q] at kk; exact kk
      cases k with
      | eq => exact lv_if_eq hx hb hdg ht (fun q => kt (decide_eq_true q)) (fun q => kf (fun z => q (of_decide_eq_true z)))
      | ne => exact lv_if_ne hx hb hdg ht (fun q => kt (by simp [mj_cnd, q])) (fun q => kf (by simp [mj_cnd, q]))
      | lt => exact lv_if_lt hx hb hdg ht (fun q => kt (decide_eq_true q)) (fun q => kf (fun z => q (of_decide_eq_true z)))
      | ge => exact lv_if_ge hx hb hdg ht (fun q => kt (decide_eq_true q)) (fun q => kf (fun z => q (of_decide_eq_true z)))
      | gt => exact lv_if_gt hx hb hdg ht (fun q => kt (decide_eq_true q)) (fun q => kf (fun z => q (of_decide_eq_true z)))
      | le => exact lv_if_le hx hb hdg ht (fun q => kt (decide_eq_true q)) (fun q => kf (fun z => q (of_decide_eq_true z)))
    · cases h
  case h_3 k off =>
    have e1 : len = 3 := by simpa [mj_lenOk, mj_len] using hlen
    subst e1
    unfold mj_if2 at h
    split at h
    · rename_i y x S0
      obtain ⟨t1, h1, h2⟩ := mj_map_spec h
      obtain ⟨rfl, rfl⟩ := Prod.mk.inj h2
      have ht := mj_to_spec h1
      have kt : mj_cnd k x y = true → W p l e R s m args below meth c H locs cells slots Q (F0 m t1 ls (mj_vs ad S0)) := fun q => by rw [if_pos q] at kk; exact kk
      have kf : ¬ mj_cnd k x y = true → W p l e R s m args below meth c H locs cells slots Q (F0 m (pc + 3) ls (mj_vs ad S0)) := fun q => by rw [if_neg q] at kk; exact kk
      cases k with
      | eq => exact lv_icmp_eq hx hb hdg ht (fun q => kt (decide_eq_true q)) (fun q => kf (fun z => q (of_decide_eq_true z)))
      | ne => exact lv_icmp_ne hx hb hdg ht (fun q => kt (by simp [mj_cnd, q])) (fun q => kf (by simp [mj_cnd, q]))
      | lt => exact lv_icmp_lt hx hb hdg ht (fun q => kt (decide_eq_true q)) (fun q => kf (fun z => q (of_decide_eq_true z)))
      | ge => exact lv_icmp_ge hx hb hdg ht (fun q => kt (decide_eq_true q)) (fun q => kf (fun z => q (of_decide_eq_true z)))
      | gt => exact lv_icmp_gt hx hb hdg ht (fun q => kt (decide_eq_true q)) (fun q => kf (fun z => q (of_decide_eq_true z)))
      | le => exact lv_icmp_le hx hb hdg ht (fun q => kt (decide_eq_true q)) (fun q => kf (fun z => q (of_decide_eq_true z)))
    · cases h
  case h_4 off =>
    have e1 : len = 3 := by simpa [mj_lenOk, mj_len] using hlen
    subst e1
    unfold mj_ifn at h
    split at h
    · obtain ⟨t1, h1, h2⟩ := mj_map_spec h
      cases h2
      exact lv_ifnullN hx hb hdg (mj_to_spec h1) kk
    · cases h
      exact lv_ifnull hx hb hdg kk
    · cases h
  case h_5 off =>
    have e1 : len = 3 := by simpa [mj_lenOk, mj_len] using hlen
    subst e1
    unfold mj_ifnn at h
    split at h
    · obtain ⟨t1, h1, h2⟩ := mj_map_spec h
      cases h2
      exact lv_ifnonnull hx hb hdg (mj_to_spec h1) kk
    · cases h
      exact lv_ifnonnullN hx hb hdg kk
    · cases h
  case h_6 d lo hi offs =>
    unfold mj_tsw at h
    split at h
    · split at h
      · rename_i hr
        obtain ⟨t1, h1, h2⟩ := mj_map_spec h
        cases h2
        exact lv_tableOut hx hb hdg hr (mj_to_spec h1) kk
      · rename_i hr
        split at h
        · rename_i o ho
          obtain ⟨t1, h1, h2⟩ := mj_map_spec h
          cases h2
          exact lv_tableIn hx hb hdg (fun q => hr (Or.inl q)) (fun q => hr (Or.inr q)) ho (mj_to_spec h1) kk
        · cases h
    · cases h
  case h_7 d ps =>
    unfold mj_lsw at h
    split at h
    · split at h
      · rename_i hr
        obtain ⟨t1, h1, h2⟩ := mj_map_spec h
        cases h2
        exact lv_lookup hx hb hdg hr rfl (mj_to_spec h1) kk
      · cases h
    · cases h
  case h_8 => cases h
end MJ3
theorem mj_br_ok {n pc t : Nat} {i : Instr} {S S' : List Value} (h : mj_br pc i S = some (t, S')) (hS : mj_sok n S) : mj_sok n S' := by
  unfold mj_br at h
  split at h
  case h_1 => obtain ⟨t1, -, h2⟩ := mj_map_spec h; cases h2; exact hS
  case h_2 =>
    unfold mj_if1 at h
    split at h
    · obtain ⟨t1, -, h2⟩ := mj_map_spec h; cases h2; exact (mj_sok_cons.mp hS).2
    · cases h
  case h_3 =>
    unfold mj_if2 at h
    split at h
    · obtain ⟨t1, -, h2⟩ := mj_map_spec h; cases h2; exact (mj_sok_cons.mp (mj_sok_cons.mp hS).2).2
    · cases h
  case h_4 =>
    unfold mj_ifn at h
    split at h
    · obtain ⟨t1, -, h2⟩ := mj_map_spec h; cases h2; exact (mj_sok_cons.mp hS).2
    · cases h; exact (mj_sok_cons.mp hS).2
    · cases h
  case h_5 =>
    unfold mj_ifnn at h
    split at h
    · obtain ⟨t1, -, h2⟩ := mj_map_spec h; cases h2; exact (mj_sok_cons.mp hS).2
    · cases h; exact (mj_sok_cons.mp hS).2
    · cases h
  case h_6 =>
    unfold mj_tsw at h
    split at h
    · split at h
      · obtain ⟨t1, -, h2⟩ := mj_map_spec h; cases h2; exact (mj_sok_cons.mp hS).2
      · split at h
        · obtain ⟨t1, -, h2⟩ := mj_map_spec h; cases h2; exact (mj_sok_cons.mp hS).2
        · cases h
    · cases h
  case h_7 =>
    unfold mj_lsw at h
    split at h
    · split at h
      · obtain ⟨t1, -, h2⟩ := mj_map_spec h; cases h2; exact (mj_sok_cons.mp hS).2
      · cases h
    · cases h
  case h_8 => cases h
