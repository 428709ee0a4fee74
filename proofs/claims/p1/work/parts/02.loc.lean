/-! mj: locals and branches; what numbers of cells a step keeps -/
theorem mj_vok_int (n : Nat) (x : Int32) : mj_vok n (.int x) := fun k h => by cases h
theorem mj_vok_long (n : Nat) (x : Int64) : mj_vok n (.long x) := fun k h => by cases h
theorem mj_vok_null (n : Nat) : mj_vok n .null := fun k h => by cases h
theorem mj_vok_mono {n n' : Nat} (hn : n ≤ n') {v : Value} (h : mj_vok n v) : mj_vok n' v := fun k e => Nat.lt_of_lt_of_le (h k e) hn
theorem mj_sok_cons {n : Nat} {v : Value} {S : List Value} : mj_sok n (v :: S) ↔ mj_vok n v ∧ mj_sok n S := by
  simp [mj_sok]
theorem mj_sok_mono {n n' : Nat} (hn : n ≤ n') {S : List Value} (h : mj_sok n S) : mj_sok n' S := fun v hv => mj_vok_mono hn (h v hv)
theorem mj_lok_mono {n n' : Nat} (hn : n ≤ n') {L : mj_L} (h : mj_lok n L) : mj_lok n' L := fun v hv => mj_vok_mono hn (h v hv)
/-- more addresses: the same values -/
theorem mj_v_app {ad b : List Nat} {v : Value} (h : mj_vok ad.length v) : mj_v (ad ++ b) v = mj_v ad v := by
  cases v with
  | ref k =>
    have hk := h k rfl
    show Value.ref _ = Value.ref _
    rw [List.getD_eq_getElem?_getD, List.getD_eq_getElem?_getD, List.getElem?_append_left hk]
  | _ => rfl
theorem mj_vs_app {ad b : List Nat} {S : List Value} (h : mj_sok ad.length S) : mj_vs (ad ++ b) S = mj_vs ad S := List.map_congr_left fun v hv => mj_v_app (h v hv)
theorem mj_ls_app {ad b : List Nat} {L : mj_L} (h : mj_lok ad.length L) : mj_ls (ad ++ b) L = mj_ls ad L := List.map_congr_left fun q hq => by rw [mj_v_app (h q hq)]
def mj_get (L : mj_L) (i : Nat) : Option Value := (L.find? (fun q => q.1 == i)).map (fun q => q.2)
def mj_put1 (L : mj_L) (i : Nat) (v : Value) : mj_L := (i, v) :: L.filter (fun q => !(q.1 == i) && !(q.1 + 1 == i && q.2.category == 2))
def mj_put2 (L : mj_L) (i : Nat) (v : Value) : mj_L := (i, v) :: L.filter (fun q => !(q.1 == i) && (!(q.1 == i + 1) && !(q.1 + 1 == i && q.2.category == 2)))
theorem mj_get_mem {L : mj_L} {i : Nat} {v : Value} (h : mj_get L i = some v) : (i, v) ∈ L := by
  unfold mj_get at h
  cases hf : L.find? (fun q => q.1 == i) with
  | none => rw [hf] at h; cases h
  | some q =>
    rw [hf] at h
    cases h
    have h1 := List.find?_some hf
    have h2 := List.mem_of_find?_eq_some hf
    have h3 : q.1 = i := by simpa using h1
    rw [← h3]
    exact h2
theorem mj_get_at {ad : List Nat} {ls : Array Slot} {nL : Nat} {L : mj_L} (hl : lv_has ls nL (mj_ls ad L)) {i : Nat} {v : Value} (h : mj_get L i = some v) : ls[i]? = some (.val (mj_v ad v)) :=
  hl.2.2 (i, mj_v ad v) (List.mem_map.mpr ⟨(i, v), mj_get_mem h, rfl⟩)
theorem mj_get_ok {n : Nat} {L : mj_L} (hl : mj_lok n L) {i : Nat} {v : Value} (h : mj_get L i = some v) : mj_vok n v := hl _ (mj_get_mem h)
theorem mj_put1_ls (ad : List Nat) (L : mj_L) (i : Nat) (v : Value) : mj_ls ad (mj_put1 L i v) = mj_put1 (mj_ls ad L) i (mj_v ad v) := by
  unfold mj_put1 mj_ls
  rw [List.map_cons, List.filter_map]
  congr 2
  refine congrFun (congrArg List.filter ?_) L
  funext q
  show _ = (_ && !(_ && (mj_v ad q.2).category == 2))
  rw [mj_v_cat]
theorem mj_put2_ls (ad : List Nat) (L : mj_L) (i : Nat) (v : Value) : mj_ls ad (mj_put2 L i v) = mj_put2 (mj_ls ad L) i (mj_v ad v) := by
  unfold mj_put2 mj_ls
  rw [List.map_cons, List.filter_map]
  congr 2
  refine congrFun (congrArg List.filter ?_) L
  funext q
  show _ = (_ && (_ && !(_ && (mj_v ad q.2).category == 2)))
  rw [mj_v_cat]
theorem mj_put1_ok {n : Nat} {L : mj_L} (hl : mj_lok n L) {i : Nat} {v : Value} (hv : mj_vok n v) : mj_lok n (mj_put1 L i v) := by
  intro q hq
  rcases List.mem_cons.mp hq with rfl | hq
  · exact hv
  · exact hl q (List.mem_filter.mp hq).1
theorem mj_put2_ok {n : Nat} {L : mj_L} (hl : mj_lok n L) {i : Nat} {v : Value} (hv : mj_vok n v) : mj_lok n (mj_put2 L i v) := by
  intro q hq
  rcases List.mem_cons.mp hq with rfl | hq
  · exact hv
  · exact hl q (List.mem_filter.mp hq).1
def mj_ldi (L : mj_L) (S : List Value) (k : Nat) : Option (mj_L × List Value) := match mj_get L k with
  | some (.int x) => some (L, .int x :: S)
  | _ => none
def mj_ldl (L : mj_L) (S : List Value) (k : Nat) : Option (mj_L × List Value) := match mj_get L k with
  | some (.long x) => some (L, .long x :: S)
  | _ => none
def mj_lda (L : mj_L) (S : List Value) (k : Nat) : Option (mj_L × List Value) := match mj_get L k with
  | some (.ref x) => some (L, .ref x :: S)
  | some .null => some (L, .null :: S)
  | _ => none
def mj_sti (nL : Nat) (L : mj_L) (S : List Value) (k : Nat) : Option (mj_L × List Value) := match S with
  | .int x :: S => if k < nL then some (mj_put1 L k (.int x), S) else none
  | _ => none
def mj_stl (nL : Nat) (L : mj_L) (S : List Value) (k : Nat) : Option (mj_L × List Value) := match S with
  | .long x :: S => if k + 1 < nL then some (mj_put2 L k (.long x), S) else none
  | _ => none
def mj_sta (nL : Nat) (L : mj_L) (S : List Value) (k : Nat) : Option (mj_L × List Value) := match S with
  | .ref x :: S => if k < nL then some (mj_put1 L k (.ref x), S) else none
  | .null :: S => if k < nL then some (mj_put1 L k .null, S) else none
  | _ => none
def mj_inc (nL : Nat) (L : mj_L) (S : List Value) (k : Nat) (n : Int) : Option (mj_L × List Value) := match mj_get L k with
  | some (.int x) => if k < nL then some (mj_put1 L k (.int (x + Int32.ofInt n)), S) else none
  | _ => none
def mj_loc (nL : Nat) (i : Instr) (L : mj_L) (S : List Value) : Option (mj_L × List Value) := match i with
  | .iload k => mj_ldi L S k
  | .iload_n k => mj_ldi L S k
  | .lload k => mj_ldl L S k
  | .lload_n k => mj_ldl L S k
  | .aload k => mj_lda L S k
  | .aload_n k => mj_lda L S k
  | .istore k => mj_sti nL L S k
  | .istore_n k => mj_sti nL L S k
  | .lstore k => mj_stl nL L S k
  | .lstore_n k => mj_stl nL L S k
  | .astore k => mj_sta nL L S k
  | .astore_n k => mj_sta nL L S k
  | .iinc k n => mj_inc nL L S k n
  | _ => none
theorem mj_ldi_spec {L L' : mj_L} {S S' : List Value} {k : Nat} (h : mj_ldi L S k = some (L', S')) : ∃ x, mj_get L k = some (.int x) ∧ L' = L ∧ S' = .int x :: S := by
  unfold mj_ldi at h
  split at h
  · rename_i x hg; cases h; exact ⟨x, hg, rfl, rfl⟩
  · cases h
theorem mj_ldl_spec {L L' : mj_L} {S S' : List Value} {k : Nat} (h : mj_ldl L S k = some (L', S')) : ∃ x, mj_get L k = some (.long x) ∧ L' = L ∧ S' = .long x :: S := by
  unfold mj_ldl at h
  split at h
  · rename_i x hg; cases h; exact ⟨x, hg, rfl, rfl⟩
  · cases h
theorem mj_lda_spec {L L' : mj_L} {S S' : List Value} {k : Nat} (h : mj_lda L S k = some (L', S')) : L' = L ∧ ((∃ x, mj_get L k = some (.ref x) ∧ S' = .ref x :: S) ∨ (mj_get L k = some .null ∧ S' = .null :: S)) := by
  unfold mj_lda at h
  split at h
  · rename_i x hg; cases h; exact ⟨rfl, Or.inl ⟨x, hg, rfl⟩⟩
  · rename_i hg; cases h; exact ⟨rfl, Or.inr ⟨hg, rfl⟩⟩
  · cases h
theorem mj_sti_spec {nL : Nat} {L L' : mj_L} {S S' : List Value} {k : Nat} (h : mj_sti nL L S k = some (L', S')) : ∃ x, S = .int x :: S' ∧ k < nL ∧ L' = mj_put1 L k (.int x) := by
  unfold mj_sti at h
  split at h
  · rename_i x S0
    split at h
    · rename_i hk; cases h; exact ⟨x, rfl, hk, rfl⟩
    · cases h
  · cases h
theorem mj_stl_spec {nL : Nat} {L L' : mj_L} {S S' : List Value} {k : Nat} (h : mj_stl nL L S k = some (L', S')) : ∃ x, S = .long x :: S' ∧ k + 1 < nL ∧ L' = mj_put2 L k (.long x) := by
  unfold mj_stl at h
  split at h
  · rename_i x S0
    split at h
    · rename_i hk; cases h; exact ⟨x, rfl, hk, rfl⟩
    · cases h
  · cases h
theorem mj_sta_spec {nL : Nat} {L L' : mj_L} {S S' : List Value} {k : Nat} (h : mj_sta nL L S k = some (L', S')) : k < nL ∧ ((∃ x, S = .ref x :: S' ∧ L' = mj_put1 L k (.ref x)) ∨ (S = .null :: S' ∧ L' = mj_put1 L k .null)) := by
  unfold mj_sta at h
  split at h
  · rename_i x S0
    split at h
    · rename_i hk; cases h; exact ⟨hk, Or.inl ⟨x, rfl, rfl⟩⟩
    · cases h
  · rename_i S0
    split at h
    · rename_i hk; cases h; exact ⟨hk, Or.inr ⟨rfl, rfl⟩⟩
    · cases h
  · cases h
theorem mj_inc_spec {nL : Nat} {L L' : mj_L} {S S' : List Value} {k : Nat} {n : Int} (h : mj_inc nL L S k n = some (L', S')) : ∃ x, mj_get L k = some (.int x) ∧ k < nL ∧ L' = mj_put1 L k (.int (x + Int32.ofInt n)) ∧ S' = S := by
  unfold mj_inc at h
  split at h
  · rename_i x hg
    split at h
    · rename_i hk; cases h; exact ⟨x, hg, hk, rfl, rfl⟩
    · cases h
  · cases h
section MJ2
variable {p : Program} {l : Launch} {e : Env} {R : Room} {s : State} {m : MethodId} {args : Array Value} {below : List Frame} {meth : Method} {c : Code} {H : Heap} {locs : List Loc} {cells slots : Nat} {Q : State → Prop}
variable {cc : ByteArray} {pc nL : Nat} {ls : Array Slot} {ad : List Nat}
set_option maxHeartbeats 4000000 in
theorem mj_loc_W (hx : p.tables.exec = Jvm.exec) (hb : c.code = cc) {i : Instr} {L L' : mj_L} {S S' : List Value} (h : mj_loc nL i L S = some (L', S')) (hdg : decode cc pc = .ok (i, mj_len i)) (hl : lv_has ls nL (mj_ls ad L))
    (kk : ∀ ls' : Array Slot, lv_has ls' nL (mj_ls ad L') → W p l e R s m args below meth c H locs cells slots Q (F0 m (pc + mj_len i) ls' (mj_vs ad S'))) : W p l e R s m args below meth c H locs cells slots Q (F0 m pc ls (mj_vs ad S)) := by
  unfold mj_loc at h
  split at h
  case h_1 k => obtain ⟨x, hg, rfl, rfl⟩ := mj_ldi_spec h; exact lv_iload hx hb hdg (mj_get_at hl hg) (kk ls hl)
  case h_2 k => obtain ⟨x, hg, rfl, rfl⟩ := mj_ldi_spec h; exact lv_iload_n hx hb hdg rfl (mj_get_at hl hg) (kk ls hl)
  case h_3 k => obtain ⟨x, hg, rfl, rfl⟩ := mj_ldl_spec h; exact lv_lload hx hb hdg (mj_get_at hl hg) (kk ls hl)
  case h_4 k => obtain ⟨x, hg, rfl, rfl⟩ := mj_ldl_spec h; exact lv_lload_n hx hb hdg rfl (mj_get_at hl hg) (kk ls hl)
  case h_5 k =>
    obtain ⟨rfl, ⟨x, hg, rfl⟩ | ⟨hg, rfl⟩⟩ := mj_lda_spec h
    · exact lv_aload hx hb hdg (mj_get_at hl hg) (kk ls hl)
    · exact lv_aloadN hx hb hdg (mj_get_at hl hg) (kk ls hl)
  case h_6 k =>
    obtain ⟨rfl, ⟨x, hg, rfl⟩ | ⟨hg, rfl⟩⟩ := mj_lda_spec h
    · exact lv_aload_n hx hb hdg rfl (mj_get_at hl hg) (kk ls hl)
    · exact lv_aload_nN hx hb hdg rfl (mj_get_at hl hg) (kk ls hl)
  case h_7 k => obtain ⟨x, rfl, hk, rfl⟩ := mj_sti_spec h; exact lv_istore hx hb hdg hl hk (mj_put1_ls ad L k (.int x)).symm kk
  case h_8 k => obtain ⟨x, rfl, hk, rfl⟩ := mj_sti_spec h; exact lv_istore_n hx hb hdg rfl hl hk (mj_put1_ls ad L k (.int x)).symm kk
  case h_9 k => obtain ⟨x, rfl, hk, rfl⟩ := mj_stl_spec h; exact lv_lstore hx hb hdg hl hk (mj_put2_ls ad L k (.long x)).symm kk
  case h_10 k => obtain ⟨x, rfl, hk, rfl⟩ := mj_stl_spec h; exact lv_lstore_n hx hb hdg rfl hl hk (mj_put2_ls ad L k (.long x)).symm kk
  case h_11 k =>
    obtain ⟨hk, ⟨x, rfl, rfl⟩ | ⟨rfl, rfl⟩⟩ := mj_sta_spec h
    · exact lv_astore hx hb hdg hl hk (mj_put1_ls ad L k (.ref x)).symm kk
    · exact lv_astoreN hx hb hdg hl hk (mj_put1_ls ad L k .null).symm kk
  case h_12 k =>
    obtain ⟨hk, ⟨x, rfl, rfl⟩ | ⟨rfl, rfl⟩⟩ := mj_sta_spec h
    · exact lv_astore_n hx hb hdg rfl hl hk (mj_put1_ls ad L k (.ref x)).symm kk
    · exact lv_astore_nN hx hb hdg rfl hl hk (mj_put1_ls ad L k .null).symm kk
  case h_13 k n =>
    obtain ⟨x, hg, hk, rfl, rfl⟩ := mj_inc_spec h
    obtain ⟨j, hj⟩ := List.getElem?_of_mem (List.mem_map.mpr ⟨(k, .int x), mj_get_mem hg, rfl⟩ : (k, Value.int x) ∈ mj_ls ad L)
    exact lv_iinc hx hb hdg hl hj rfl hk (mj_put1_ls ad L k (.int (x + Int32.ofInt n))).symm kk
  case h_14 => cases h
end MJ2
theorem mj_alu_ok {n : Nat} {i : Instr} {S S' : List Value} (h : mj_alu i S = some S') (hS : mj_sok n S) : mj_sok n S' := by
  have q1 : ∀ {f : Int32 → Option Value}, (∀ x v, f x = some v → mj_vok n v) → mj_i1 S f = some S' → mj_sok n S' := fun hf h => by
    obtain ⟨x, S0, v, rfl, hv, rfl⟩ := mj_i1_spec h
    exact mj_sok_cons.mpr ⟨hf _ _ hv, (mj_sok_cons.mp hS).2⟩
  have q2 : ∀ {f : Int32 → Int32 → Option Value}, (∀ x y v, f x y = some v → mj_vok n v) → mj_i2 S f = some S' → mj_sok n S' := fun hf h => by
    obtain ⟨x, y, S0, v, rfl, hv, rfl⟩ := mj_i2_spec h
    exact mj_sok_cons.mpr ⟨hf _ _ _ hv, (mj_sok_cons.mp (mj_sok_cons.mp hS).2).2⟩
  have q3 : ∀ {f : Int64 → Option Value}, (∀ x v, f x = some v → mj_vok n v) → mj_l1 S f = some S' → mj_sok n S' := fun hf h => by
    obtain ⟨x, S0, v, rfl, hv, rfl⟩ := mj_l1_spec h
    exact mj_sok_cons.mpr ⟨hf _ _ hv, (mj_sok_cons.mp hS).2⟩
  have q4 : ∀ {f : Int64 → Int64 → Option Value}, (∀ x y v, f x y = some v → mj_vok n v) → mj_l2 S f = some S' → mj_sok n S' := fun hf h => by
    obtain ⟨x, y, S0, v, rfl, hv, rfl⟩ := mj_l2_spec h
    exact mj_sok_cons.mpr ⟨hf _ _ _ hv, (mj_sok_cons.mp (mj_sok_cons.mp hS).2).2⟩
  have q5 : ∀ {f : Int64 → Int32 → Option Value}, (∀ x y v, f x y = some v → mj_vok n v) → mj_li S f = some S' → mj_sok n S' := fun hf h => by
    obtain ⟨x, y, S0, v, rfl, hv, rfl⟩ := mj_li_spec h
    exact mj_sok_cons.mpr ⟨hf _ _ _ hv, (mj_sok_cons.mp (mj_sok_cons.mp hS).2).2⟩
  unfold mj_alu at h
  split at h
  all_goals first
    | (cases h; exact mj_sok_cons.mpr ⟨mj_vok_int _ _, hS⟩)
    | (cases h; exact mj_sok_cons.mpr ⟨mj_vok_long _ _, hS⟩)
    | (cases h; exact mj_sok_cons.mpr ⟨mj_vok_null _, hS⟩)
    | exact q2 (fun x y v hv => by cases hv; exact mj_vok_int _ _) h
    | exact q2 (fun x y v hv => by obtain ⟨-, rfl⟩ := mj_if_some hv; exact mj_vok_int _ _) h
    | exact q1 (fun x v hv => by cases hv; exact mj_vok_int _ _) h
    | exact q1 (fun x v hv => by cases hv; exact mj_vok_long _ _) h
    | exact q4 (fun x y v hv => by cases hv; exact mj_vok_long _ _) h
    | exact q4 (fun x y v hv => by cases hv; exact mj_vok_int _ _) h
    | exact q4 (fun x y v hv => by obtain ⟨-, rfl⟩ := mj_if_some hv; exact mj_vok_long _ _) h
    | exact q3 (fun x v hv => by cases hv; exact mj_vok_int _ _) h
    | exact q3 (fun x v hv => by cases hv; exact mj_vok_long _ _) h
    | exact q5 (fun x y v hv => by cases hv; exact mj_vok_long _ _) h
    | skip
  · unfold mj_dup at h
    split at h
    · split at h
      · cases h; exact mj_sok_cons.mpr ⟨(mj_sok_cons.mp hS).1, hS⟩
      · cases h
    · cases h
  · unfold mj_pop at h
    split at h
    · split at h
      · cases h; exact (mj_sok_cons.mp hS).2
      · cases h
    · cases h
  · unfold mj_dup2 at h
    split at h
    · split at h
      · cases h
        have h1 := mj_sok_cons.mp hS
        have h2 := mj_sok_cons.mp h1.2
        exact mj_sok_cons.mpr ⟨h1.1, mj_sok_cons.mpr ⟨h2.1, hS⟩⟩
      · cases h
    · cases h
  · cases h
theorem mj_loc_ok {n nL : Nat} {i : Instr} {L L' : mj_L} {S S' : List Value} (h : mj_loc nL i L S = some (L', S')) (hL : mj_lok n L) (hS : mj_sok n S) : mj_lok n L' ∧ mj_sok n S' := by
  have q1 : ∀ {k : Nat}, mj_ldi L S k = some (L', S') → mj_lok n L' ∧ mj_sok n S' := fun h => by
    obtain ⟨x, hg, rfl, rfl⟩ := mj_ldi_spec h
    exact ⟨hL, mj_sok_cons.mpr ⟨mj_vok_int _ _, hS⟩⟩
  have q2 : ∀ {k : Nat}, mj_ldl L S k = some (L', S') → mj_lok n L' ∧ mj_sok n S' := fun h => by
    obtain ⟨x, hg, rfl, rfl⟩ := mj_ldl_spec h
    exact ⟨hL, mj_sok_cons.mpr ⟨mj_vok_long _ _, hS⟩⟩
  have q3 : ∀ {k : Nat}, mj_lda L S k = some (L', S') → mj_lok n L' ∧ mj_sok n S' := fun h => by
    obtain ⟨rfl, ⟨x, hg, rfl⟩ | ⟨hg, rfl⟩⟩ := mj_lda_spec h
    · exact ⟨hL, mj_sok_cons.mpr ⟨mj_get_ok hL hg, hS⟩⟩
    · exact ⟨hL, mj_sok_cons.mpr ⟨mj_vok_null _, hS⟩⟩
  have q4 : ∀ {k : Nat}, mj_sti nL L S k = some (L', S') → mj_lok n L' ∧ mj_sok n S' := fun h => by
    obtain ⟨x, rfl, hk, rfl⟩ := mj_sti_spec h
    exact ⟨mj_put1_ok hL (mj_vok_int _ _), (mj_sok_cons.mp hS).2⟩
  have q5 : ∀ {k : Nat}, mj_stl nL L S k = some (L', S') → mj_lok n L' ∧ mj_sok n S' := fun h => by
    obtain ⟨x, rfl, hk, rfl⟩ := mj_stl_spec h
    exact ⟨mj_put2_ok hL (mj_vok_long _ _), (mj_sok_cons.mp hS).2⟩
  have q6 : ∀ {k : Nat}, mj_sta nL L S k = some (L', S') → mj_lok n L' ∧ mj_sok n S' := fun h => by
    obtain ⟨hk, ⟨x, rfl, rfl⟩ | ⟨rfl, rfl⟩⟩ := mj_sta_spec h
    · exact ⟨mj_put1_ok hL (mj_sok_cons.mp hS).1, (mj_sok_cons.mp hS).2⟩
    · exact ⟨mj_put1_ok hL (mj_vok_null _), (mj_sok_cons.mp hS).2⟩
  unfold mj_loc at h
  split at h
  all_goals first
    | exact q1 h
    | exact q2 h
    | exact q3 h
    | exact q4 h
    | exact q5 h
    | exact q6 h
    | skip
  · obtain ⟨x, hg, hk, rfl, rfl⟩ := mj_inc_spec h
    exact ⟨mj_put1_ok hL (mj_vok_int _ _), hS⟩
  · cases h
