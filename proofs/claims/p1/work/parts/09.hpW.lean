/-! mj: a step on the heap, whichever -/
/-- what holds throughout a method's body -/
def mj_Ctx (p : Program) (s : State) (m : MethodId) (args : Array Value) (meth : Method) (c : Code) (cc : ByteArray) (nL : Nat) (D : va_G) (cl : List vw_C) (tys : List (ClassId × FieldType)) (tl : List (FieldType × Nat)) (A : Nat → Prop) (c0 : Nat) (Ts : List Cond) (own : String) (T : mj_T) (ini : Bool) : Prop :=
  p.tables.exec = Jvm.exec ∧ c.code = cc ∧ c.maxLocals = nL ∧ (∀ w ∈ Ts, w.before args s = true) ∧ s.vm.findClass own = some m.cls ∧ va_K D cl tys s ∧ tys.map (fun q => q.2) = tl.map (fun q => q.1) ∧ (∀ q, s.heap.size ≤ q → A q) ∧ (ini = true → meth.name = "<init>") ∧ mj_okF Ts cl own T ∧ mj_okC Ts own T ∧ mj_okN Ts cl own T ∧ mj_okA Ts cl tl own T ∧ mj_okS0 c0 T
section MJ9
variable {p : Program} {l : Launch} {e : Env} {R : Room} {s : State} {m : MethodId} {args : Array Value} {below : List Frame} {meth : Method} {c : Code} {H : Heap} {locs : List Loc} {cells slots : Nat} {Q : State → Prop}
variable {cc : ByteArray} {pc nL : Nat} {ls : Array Slot} {ad : List Nat}
variable {D : va_G} {cl : List vw_C} {tys : List (ClassId × FieldType)} {A : Nat → Prop} {c0 : Nat} {h h' : mj_H} {S S' : List Value} {Ts : List Cond} {own : String} {T : mj_T} {tl : List (FieldType × Nat)} {ini : Bool} {xa : Nat → Nat} {xt : mj_X}
/-- what a static that is read must give -/
def mj_okS (p : Program) (l : Launch) (e : Env) (R : Room) (s : State) (m : MethodId) (args : Array Value) (below : List Frame) (meth : Method) (c : Code) (Q : State → Prop) (cc : ByteArray) (A : Nat → Prop) (c0 : Nat) (xa : Nat → Nat) (T : mj_T) : Prop :=
  ∀ (x : Nat) (v : Value), T.2.2.2.2.2 x = some v → ∀ (ad : List Nat) (H : Heap) (locs : List Loc) (cells slots pc : Nat) (ls : Array Slot) (rest : List Value), (∀ k, k < c0 → ad.getD k 0 = xa k) → va_S A s.heap H locs → decode cc pc = .ok (.getstatic x, 3) →
    W p l e R s m args below meth c H locs cells slots Q (F0 m (pc + 3) ls (mj_v ad v :: rest)) → W p l e R s m args below meth c H locs cells slots Q (F0 m pc ls rest)
set_option maxHeartbeats 4000000 in
theorem mj_hp_W (hC : mj_Ctx p s m args meth c cc nL D cl tys tl A c0 Ts own T ini) (hst : mj_okS p l e R s m args below meth c Q cc A c0 xa T) {i : Instr} (hX : mj_Xok xt c0 xa A s s.heap) (hs : mj_hp T xt tl c0 ini i S h = some (S', h')) (hdg : decode cc pc = .ok (i, mj_len i)) (hI : mj_I D cl tys A c0 s.heap ad h H locs) (hxa : ∀ k, k < c0 → ad.getD k 0 = xa k) (hok : mj_sok h.length S)
    (hrc : cells + (h'.length - h.length) ≤ R.cells) (hrs : slots + (mj_sl h' - mj_sl h) ≤ R.slots)
    (kk : ∀ b H' locs', mj_I D cl tys A c0 s.heap (ad ++ b) h' H' locs' → W p l e R s m args below meth c H' locs' (cells + (h'.length - h.length)) (slots + (mj_sl h' - mj_sl h)) Q (F0 m (pc + mj_len i) ls (mj_vs (ad ++ b) S'))) : W p l e R s m args below meth c H locs cells slots Q (F0 m pc ls (mj_vs ad S)) := by
  obtain ⟨hx, hb, hml, hts, hown, hK, htl, hAq, hini, hF, hCn, hN, hA, hS0⟩ := hC
  have same : h' = h → W p l e R s m args below meth c H locs cells slots Q (F0 m (pc + mj_len i) ls (mj_vs ad S')) := fun q => by
    subst q
    have k1 := kk [] H locs (by rw [List.append_nil]; exact hI)
    rw [Nat.sub_self, Nat.sub_self, List.append_nil] at k1
    exact k1
  have put : ∀ H' locs', h'.length = h.length → mj_sl h' = mj_sl h → mj_I D cl tys A c0 s.heap ad h' H' locs' → W p l e R s m args below meth c H' locs' cells slots Q (F0 m (pc + mj_len i) ls (mj_vs ad S')) := fun H' locs' q1 q2 q3 => by
    have k1 := kk [] H' locs' (by rw [List.append_nil]; exact q3)
    rw [q1, q2, Nat.sub_self, Nat.sub_self, List.append_nil] at k1
    exact k1
  have made : ∀ S0, S' = .ref h.length :: S0 → mj_sok h.length S0 → h'.length = h.length + 1 → ∀ q H', mj_I D cl tys A c0 s.heap (ad ++ [q]) h' H' locs → W p l e R s m args below meth c H' locs (cells + 1) (slots + (mj_sl h' - mj_sl h)) Q (F0 m (pc + mj_len i) ls (.ref q :: mj_vs ad S'.tail)) := fun S0 e1 e2 e3 q H' hI' => by
    have k1 := kk [q] H' locs hI'
    rw [e3, Nat.add_sub_cancel_left, e1] at k1
    have e4 : mj_vs (ad ++ [q]) (.ref h.length :: S0) = .ref q :: mj_vs ad S0 := by
      show mj_v _ _ :: mj_vs _ _ = _
      rw [mj_vs_app (by rw [hI.1]; exact e2)]
      congr 1
      show Value.ref _ = Value.ref _
      rw [List.getD_eq_getElem?_getD, ← hI.1, List.getElem?_append_right (Nat.le_refl _), Nat.sub_self]
      rfl
    rw [e4] at k1
    rw [e1]
    exact k1
  unfold mj_hp at hs
  split at hs
  case h_1 x => exact mj_gf_W hx hb hts hown hK hF hs hdg hI same
  case h_2 x => exact mj_pf_W hx hb hts hown hK hF hini hs hdg hI hok put
  case h_3 => exact mj_ald_W hx hb hK htl hX hxa hs hdg hI same
  case h_4 => exact mj_ald_W hx hb hK htl hX hxa hs hdg hI same
  case h_5 => exact mj_ald_W hx hb hK htl hX hxa hs hdg hI same
  case h_6 => exact mj_ald_W hx hb hK htl hX hxa hs hdg hI same
  case h_7 => exact mj_ast_W hx hb hK htl hA hs hdg hI hok put
  case h_8 => exact mj_ast_W hx hb hK htl hA hs hdg hI hok put
  case h_9 => exact mj_ast_W hx hb hK htl hA hs hdg hI hok put
  case h_10 => exact mj_ast_W hx hb hK htl hA hs hdg hI hok put
  case h_11 => exact mj_aln_W hx hb hK htl hX hxa hs hdg hI same
  case h_12 aty =>
    have h1 : ∃ S0, S' = .ref h.length :: S0 ∧ mj_sok h.length S0 ∧ h'.length = h.length + 1 := by
      have hs2 := hs
      unfold mj_nwa at hs2
      split at hs2
      · split at hs2
        · split at hs2
          · cases hs2
          · obtain ⟨rfl, rfl⟩ := Prod.mk.inj (Option.some.inj hs2)
            exact ⟨_, rfl, (mj_sok_cons.mp hok).2, by rw [List.length_append]; rfl⟩
        · cases hs2
      · cases hs2
    obtain ⟨S0, e1, e2, e3⟩ := h1
    rw [e3, Nat.add_sub_cancel_left] at hrc
    exact mj_nwa_W hx hb hts hK htl hA hAq hs hdg hI hrc hrs (fun q H' _ hI' => made S0 e1 e2 e3 q H' hI')
  case h_13 x =>
    have h1 : ∃ S0, S' = .ref h.length :: S0 ∧ mj_sok h.length S0 ∧ h'.length = h.length + 1 := by
      have hs2 := hs
      unfold mj_nwq at hs2
      split at hs2
      · split at hs2
        · split at hs2
          · cases hs2
          · obtain ⟨rfl, rfl⟩ := Prod.mk.inj (Option.some.inj hs2)
            exact ⟨_, rfl, (mj_sok_cons.mp hok).2, by rw [List.length_append]; rfl⟩
        · cases hs2
      · cases hs2
    obtain ⟨S0, e1, e2, e3⟩ := h1
    rw [e3, Nat.add_sub_cancel_left] at hrc
    exact mj_nwq_W hx hb hts hown hK htl hA (fun C hC => va_AO.of (hts _ hC)) hAq hs hdg hI hrc hrs (fun q H' _ hI' => made S0 e1 e2 e3 q H' hI')
  case h_14 x =>
    have h1 : ∃ S0, S' = .ref h.length :: S0 ∧ mj_sok h.length S0 ∧ h'.length = h.length + 1 := by
      have hs2 := hs
      unfold mj_nw at hs2
      split at hs2
      · obtain ⟨rfl, rfl⟩ := Prod.mk.inj (Option.some.inj hs2)
        exact ⟨_, rfl, hok, by rw [List.length_append]; rfl⟩
      · cases hs2
    obtain ⟨S0, e1, e2, e3⟩ := h1
    rw [e3, Nat.add_sub_cancel_left] at hrc
    exact mj_nw_W hx hb hts hown hK hN hAq hs hdg hI hrc hrs (fun q H' _ hI' => made S0 e1 e2 e3 q H' hI')
  case h_15 x =>
    obtain ⟨v, hv, h2⟩ := mj_map_spec hs
    obtain ⟨rfl, rfl⟩ := Prod.mk.inj h2
    exact lv_ldc hx hb hown (hts _ (hCn.1 _ _ hv)) hdg (same rfl)
  case h_16 x =>
    obtain ⟨v, hv, h2⟩ := mj_map_spec hs
    obtain ⟨rfl, rfl⟩ := Prod.mk.inj h2
    exact lv_ldcw hx hb hown (hts _ (hCn.1 _ _ hv)) hdg (same rfl)
  case h_17 x =>
    obtain ⟨v, hv, h2⟩ := mj_map_spec hs
    obtain ⟨rfl, rfl⟩ := Prod.mk.inj h2
    exact lv_ldc2 hx hb hown (hts _ (hCn.2 _ _ hv)) hdg (same rfl)
  case h_18 x =>
    obtain ⟨v, hv, h2⟩ := mj_map_spec hs
    obtain ⟨rfl, rfl⟩ := Prod.mk.inj h2
    exact hst x v hv ad H locs cells slots pc ls _ hxa hI.2.2.2.2.2.1 hdg (same rfl)
  case h_19 => cases hs
end MJ9
