/-! mj: a small machine over lists (cells by their numbers, not their addresses); its runs are runs of the JVM's methods. This part: the words of it; constants and arithmetic, locals, branches. -/
abbrev mj_E : Type := (Nat × vp_A) ⊕ (Nat × List Value)
abbrev mj_H : Type := List mj_E
abbrev mj_L : Type := List (Nat × Value)
/-- a value, its cell's number turned into the address -/
def mj_v (ad : List Nat) (v : Value) : Value := match v with
  | .ref k => .ref (ad.getD k 0)
  | v => v
def mj_vs (ad : List Nat) (S : List Value) : List Value := S.map (mj_v ad)
def mj_ls (ad : List Nat) (L : mj_L) : mj_L := L.map (fun q => (q.1, mj_v ad q.2))
theorem mj_v_cat (ad : List Nat) (v : Value) : (mj_v ad v).category = v.category := by cases v <;> rfl
/-- a number of a cell that is there -/
def mj_vok (n : Nat) (v : Value) : Prop := ∀ k, v = .ref k → k < n
def mj_sok (n : Nat) (S : List Value) : Prop := ∀ v ∈ S, mj_vok n v
def mj_lok (n : Nat) (L : mj_L) : Prop := ∀ q ∈ L, mj_vok n q.2
def mj_i1 (S : List Value) (f : Int32 → Option Value) : Option (List Value) := match S with
  | .int x :: S => (f x).map (fun v => v :: S)
  | _ => none
def mj_i2 (S : List Value) (f : Int32 → Int32 → Option Value) : Option (List Value) := match S with
  | .int y :: .int x :: S => (f x y).map (fun v => v :: S)
  | _ => none
def mj_l1 (S : List Value) (f : Int64 → Option Value) : Option (List Value) := match S with
  | .long x :: S => (f x).map (fun v => v :: S)
  | _ => none
def mj_l2 (S : List Value) (f : Int64 → Int64 → Option Value) : Option (List Value) := match S with
  | .long y :: .long x :: S => (f x y).map (fun v => v :: S)
  | _ => none
def mj_li (S : List Value) (f : Int64 → Int32 → Option Value) : Option (List Value) := match S with
  | .int y :: .long x :: S => (f x y).map (fun v => v :: S)
  | _ => none
def mj_dup (S : List Value) : Option (List Value) := match S with
  | v :: S => if v.category = 1 then some (v :: v :: S) else none
  | [] => none
def mj_pop (S : List Value) : Option (List Value) := match S with
  | v :: S => if v.category = 1 then some S else none
  | [] => none
def mj_dup2 (S : List Value) : Option (List Value) := match S with
  | v :: w :: S => if v.category = 1 ∧ w.category = 1 then some (v :: w :: v :: w :: S) else none
  | _ => none
/-- constants, arithmetic, the stack -/
def mj_alu (i : Instr) (S : List Value) : Option (List Value) := match i with
  | .iconst n => some (.int (Int32.ofInt n) :: S)
  | .bipush n => some (.int (Int8.ofInt n).toInt32 :: S)
  | .sipush n => some (.int (Int16.ofInt n).toInt32 :: S)
  | .lconst n => some (.long (Int64.ofNat (n : Nat)) :: S)
  | .aconst_null => some (.null :: S)
  | .iadd => mj_i2 S fun x y => some (.int (x + y))
  | .isub => mj_i2 S fun x y => some (.int (x - y))
  | .imul => mj_i2 S fun x y => some (.int (x * y))
  | .iand => mj_i2 S fun x y => some (.int (x &&& y))
  | .ior => mj_i2 S fun x y => some (.int (x ||| y))
  | .ixor => mj_i2 S fun x y => some (.int (x ^^^ y))
  | .idiv => mj_i2 S fun x y => if y = 0 then none else some (.int (x / y))
  | .irem => mj_i2 S fun x y => if y = 0 then none else some (.int (x - x / y * y))
  | .ineg => mj_i1 S fun x => some (.int (-x))
  | .ishl => mj_i2 S fun x y => some (.int (x <<< (y &&& 31)))
  | .ishr => mj_i2 S fun x y => some (.int (x >>> (y &&& 31)))
  | .iushr => mj_i2 S fun x y => some (.int (x.toUInt32 >>> (y.toUInt32 &&& Int32.toUInt32 31)).toInt32)
  | .ladd => mj_l2 S fun x y => some (.long (x + y))
  | .lsub => mj_l2 S fun x y => some (.long (x - y))
  | .lmul => mj_l2 S fun x y => some (.long (x * y))
  | .land => mj_l2 S fun x y => some (.long (x &&& y))
  | .lor => mj_l2 S fun x y => some (.long (x ||| y))
  | .lxor => mj_l2 S fun x y => some (.long (x ^^^ y))
  | .ldiv => mj_l2 S fun x y => if y = 0 then none else some (.long (x / y))
  | .lrem => mj_l2 S fun x y => if y = 0 then none else some (.long (x - x / y * y))
  | .lneg => mj_l1 S fun x => some (.long (-x))
  | .lshl => mj_li S fun x y => some (.long (x <<< (y.toInt64 &&& 63)))
  | .lushr => mj_li S fun x y => some (.long (x.toUInt64 >>> (y.toInt64.toUInt64 &&& Int64.toUInt64 63)).toInt64)
  | .lcmp => mj_l2 S fun x y => some (.int (lg_cmp x y))
  | .i2l => mj_i1 S fun x => some (.long x.toInt64)
  | .l2i => mj_l1 S fun x => some (.int x.toInt32)
  | .i2b => mj_i1 S fun x => some (.int x.toInt8.toInt32)
  | .i2c => mj_i1 S fun x => some (.int (x.toUInt32 % 65536).toInt32)
  | .dup => mj_dup S
  | .pop => mj_pop S
  | .dup2 => mj_dup2 S
  | _ => none
/-- the length of an instruction (switches: any) -/
def mj_len (i : Instr) : Nat := match i with
  | .bipush _ => 2
  | .sipush _ => 3
  | .iload _ => 2
  | .lload _ => 2
  | .aload _ => 2
  | .istore _ => 2
  | .lstore _ => 2
  | .astore _ => 2
  | .iinc _ _ => 3
  | .ldc _ => 2
  | .ldc_w _ => 3
  | .ldc2_w _ => 3
  | .goto _ => 3
  | .ifCond _ _ => 3
  | .if_icmp _ _ => 3
  | .ifnull _ => 3
  | .ifnonnull _ => 3
  | .getfield _ => 3
  | .putfield _ => 3
  | .getstatic _ => 3
  | .new _ => 3
  | .anewarray _ => 3
  | .invokevirtual _ => 3
  | .invokespecial _ => 3
  | .invokestatic _ => 3
  | .checkcast _ => 3
  | .newarray _ => 2
  | _ => 1
theorem mj_i1_spec {S S' : List Value} {f : Int32 → Option Value} (h : mj_i1 S f = some S') : ∃ x S0 v, S = .int x :: S0 ∧ f x = some v ∧ S' = v :: S0 := by
  unfold mj_i1 at h
  split at h
  · rename_i x S0
    cases hf : f x with
    | none => rw [hf] at h; cases h
    | some v => rw [hf] at h; cases h; exact ⟨x, S0, v, rfl, hf, rfl⟩
  · cases h
theorem mj_i2_spec {S S' : List Value} {f : Int32 → Int32 → Option Value} (h : mj_i2 S f = some S') : ∃ x y S0 v, S = .int y :: .int x :: S0 ∧ f x y = some v ∧ S' = v :: S0 := by
  unfold mj_i2 at h
  split at h
  · rename_i y x S0
    cases hf : f x y with
    | none => rw [hf] at h; cases h
    | some v => rw [hf] at h; cases h; exact ⟨x, y, S0, v, rfl, hf, rfl⟩
  · cases h
theorem mj_l1_spec {S S' : List Value} {f : Int64 → Option Value} (h : mj_l1 S f = some S') : ∃ x S0 v, S = .long x :: S0 ∧ f x = some v ∧ S' = v :: S0 := by
  unfold mj_l1 at h
  split at h
  · rename_i x S0
    cases hf : f x with
    | none => rw [hf] at h; cases h
    | some v => rw [hf] at h; cases h; exact ⟨x, S0, v, rfl, hf, rfl⟩
  · cases h
theorem mj_l2_spec {S S' : List Value} {f : Int64 → Int64 → Option Value} (h : mj_l2 S f = some S') : ∃ x y S0 v, S = .long y :: .long x :: S0 ∧ f x y = some v ∧ S' = v :: S0 := by
  unfold mj_l2 at h
  split at h
  · rename_i y x S0
    cases hf : f x y with
    | none => rw [hf] at h; cases h
    | some v => rw [hf] at h; cases h; exact ⟨x, y, S0, v, rfl, hf, rfl⟩
  · cases h
theorem mj_li_spec {S S' : List Value} {f : Int64 → Int32 → Option Value} (h : mj_li S f = some S') : ∃ x y S0 v, S = .int y :: .long x :: S0 ∧ f x y = some v ∧ S' = v :: S0 := by
  unfold mj_li at h
  split at h
  · rename_i y x S0
    cases hf : f x y with
    | none => rw [hf] at h; cases h
    | some v => rw [hf] at h; cases h; exact ⟨x, y, S0, v, rfl, hf, rfl⟩
  · cases h
theorem mj_if_some {α : Type} {c : Prop} [Decidable c] {a b : α} (h : (if c then none else some a) = some b) : ¬ c ∧ a = b := by
  by_cases hc : c
  · rw [if_pos hc] at h; cases h
  · rw [if_neg hc] at h; cases h; exact ⟨hc, rfl⟩
section MJ1
variable {p : Program} {l : Launch} {e : Env} {R : Room} {s : State} {m : MethodId} {args : Array Value} {below : List Frame} {meth : Method} {c : Code} {H : Heap} {locs : List Loc} {cells slots : Nat} {Q : State → Prop}
variable {cc : ByteArray} {pc : Nat} {ls : Array Slot} {ad : List Nat}
set_option maxHeartbeats 4000000 in
theorem mj_alu_W (hx : p.tables.exec = Jvm.exec) (hb : c.code = cc) {i : Instr} {S S' : List Value} (h : mj_alu i S = some S') (hdg : decode cc pc = .ok (i, mj_len i))
    (kk : W p l e R s m args below meth c H locs cells slots Q (F0 m (pc + mj_len i) ls (mj_vs ad S'))) : W p l e R s m args below meth c H locs cells slots Q (F0 m pc ls (mj_vs ad S)) := by
  unfold mj_alu at h
  split at h
  case h_1 n => cases h; exact lv_iconst hx hb hdg rfl kk
  case h_2 n => cases h; exact lv_bipush hx hb hdg rfl kk
  case h_3 n => cases h; exact lv_sipush hx hb hdg rfl kk
  case h_4 n => cases h; exact lv_lconst hx hb hdg rfl kk
  case h_5 => cases h; exact lv_null hx hb hdg kk
  case h_6 => obtain ⟨x, y, S0, v, rfl, hf, rfl⟩ := mj_i2_spec h; cases hf; exact lv_iadd hx hb hdg kk
  case h_7 => obtain ⟨x, y, S0, v, rfl, hf, rfl⟩ := mj_i2_spec h; cases hf; exact lv_isub hx hb hdg kk
  case h_8 => obtain ⟨x, y, S0, v, rfl, hf, rfl⟩ := mj_i2_spec h; cases hf; exact lv_imul hx hb hdg kk
  case h_9 => obtain ⟨x, y, S0, v, rfl, hf, rfl⟩ := mj_i2_spec h; cases hf; exact lv_iand hx hb hdg kk
  case h_10 => obtain ⟨x, y, S0, v, rfl, hf, rfl⟩ := mj_i2_spec h; cases hf; exact lv_ior hx hb hdg kk
  case h_11 => obtain ⟨x, y, S0, v, rfl, hf, rfl⟩ := mj_i2_spec h; cases hf; exact lv_ixor hx hb hdg kk
  case h_12 => obtain ⟨x, y, S0, v, rfl, hf, rfl⟩ := mj_i2_spec h; obtain ⟨hn, rfl⟩ := mj_if_some hf; exact lv_idiv hx hb hdg hn kk
  case h_13 => obtain ⟨x, y, S0, v, rfl, hf, rfl⟩ := mj_i2_spec h; obtain ⟨hn, rfl⟩ := mj_if_some hf; exact lv_irem hx hb hdg hn kk
  case h_14 => obtain ⟨x, S0, v, rfl, hf, rfl⟩ := mj_i1_spec h; cases hf; exact lv_ineg hx hb hdg kk
  case h_15 => obtain ⟨x, y, S0, v, rfl, hf, rfl⟩ := mj_i2_spec h; cases hf; exact lv_ishl hx hb hdg kk
  case h_16 => obtain ⟨x, y, S0, v, rfl, hf, rfl⟩ := mj_i2_spec h; cases hf; exact lv_ishr hx hb hdg kk
  case h_17 => obtain ⟨x, y, S0, v, rfl, hf, rfl⟩ := mj_i2_spec h; cases hf; exact lv_iushr hx hb hdg rfl kk
  case h_18 => obtain ⟨x, y, S0, v, rfl, hf, rfl⟩ := mj_l2_spec h; cases hf; exact lv_ladd hx hb hdg kk
  case h_19 => obtain ⟨x, y, S0, v, rfl, hf, rfl⟩ := mj_l2_spec h; cases hf; exact lv_lsub hx hb hdg kk
  case h_20 => obtain ⟨x, y, S0, v, rfl, hf, rfl⟩ := mj_l2_spec h; cases hf; exact lv_lmul hx hb hdg kk
  case h_21 => obtain ⟨x, y, S0, v, rfl, hf, rfl⟩ := mj_l2_spec h; cases hf; exact lv_land hx hb hdg kk
  case h_22 => obtain ⟨x, y, S0, v, rfl, hf, rfl⟩ := mj_l2_spec h; cases hf; exact lv_lor hx hb hdg kk
  case h_23 => obtain ⟨x, y, S0, v, rfl, hf, rfl⟩ := mj_l2_spec h; cases hf; exact lv_lxor hx hb hdg kk
  case h_24 => obtain ⟨x, y, S0, v, rfl, hf, rfl⟩ := mj_l2_spec h; obtain ⟨hn, rfl⟩ := mj_if_some hf; exact lv_ldiv hx hb hdg hn kk
  case h_25 => obtain ⟨x, y, S0, v, rfl, hf, rfl⟩ := mj_l2_spec h; obtain ⟨hn, rfl⟩ := mj_if_some hf; exact lv_lrem hx hb hdg hn kk
  case h_26 => obtain ⟨x, S0, v, rfl, hf, rfl⟩ := mj_l1_spec h; cases hf; exact lv_lneg hx hb hdg kk
  case h_27 => obtain ⟨x, y, S0, v, rfl, hf, rfl⟩ := mj_li_spec h; cases hf; exact lv_lshl hx hb hdg rfl kk
  case h_28 => obtain ⟨x, y, S0, v, rfl, hf, rfl⟩ := mj_li_spec h; cases hf; exact lv_lushr hx hb hdg rfl kk
  case h_29 => obtain ⟨x, y, S0, v, rfl, hf, rfl⟩ := mj_l2_spec h; cases hf; exact W.lcmp hx hb hdg kk
  case h_30 => obtain ⟨x, S0, v, rfl, hf, rfl⟩ := mj_i1_spec h; cases hf; exact lv_i2l hx hb hdg rfl kk
  case h_31 => obtain ⟨x, S0, v, rfl, hf, rfl⟩ := mj_l1_spec h; cases hf; exact lv_l2i hx hb hdg rfl kk
  case h_32 => obtain ⟨x, S0, v, rfl, hf, rfl⟩ := mj_i1_spec h; cases hf; exact lv_i2b hx hb hdg rfl kk
  case h_33 => obtain ⟨x, S0, v, rfl, hf, rfl⟩ := mj_i1_spec h; cases hf; exact lv_i2c hx hb hdg rfl kk
  case h_34 =>
    unfold mj_dup at h
    split at h
    · split at h
      · rename_i hc; cases h; exact lv_dup hx hb hdg (by rw [mj_v_cat]; exact hc) kk
      · cases h
    · cases h
  case h_35 =>
    unfold mj_pop at h
    split at h
    · split at h
      · rename_i hc; cases h; exact lv_pop hx hb hdg (by rw [mj_v_cat]; exact hc) kk
      · cases h
    · cases h
  case h_36 =>
    unfold mj_dup2 at h
    split at h
    · split at h
      · rename_i hc; cases h; exact lv_dup2_11 hx hb hdg (by rw [mj_v_cat]; exact hc.1) (by rw [mj_v_cat]; exact hc.2) kk
      · cases h
    · cases h
  case h_37 => cases h
end MJ1
