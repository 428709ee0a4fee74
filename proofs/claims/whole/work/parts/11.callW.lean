/-! mj: a call of the small machine is a call of the JVM's, by the callee's contract -/
def mj_A (tys : List (ClassId × FieldType)) (ad : List Nat) (h : mj_H) (c0 sz : Nat) : Nat → Prop := va_A ((mj_W tys ad h).drop c0) sz
/-- statics that are read, with what they hold -/
abbrev mj_Z : Type := List (String × String × String × Value) × List (String × Nat × String × Nat) × (Nat × List Nat × List (List Int32) × (Nat → Nat) × (Nat → Nat)) × (Nat × Nat)
def mj_Zok (Zs : mj_Z) (A : Nat → Prop) (U : State) (H : Heap) : Prop := (∀ z ∈ Zs.1, va_Z z.1 z.2.1 z.2.2.1 z.2.2.2 A U H) ∧ (∀ r ∈ Zs.2.1, vk_R r.1 r.2.1 r.2.2.1 r.2.2.2 U) ∧ vk_S Zs.2.2.1.1 Zs.2.2.1.2.1 Zs.2.2.1.2.2.1 Zs.2.2.1.2.2.2.1 Zs.2.2.1.2.2.2.2 A U H
theorem mj_Zok.call {Zs : mj_Z} {A B : Nat → Prop} {s U : State} {H : Heap} (h : mj_Zok Zs A s s.heap) (hk : ∀ a : Nat, a < s.heap.size → ¬ A a → H[a]? = s.heap[a]?) (hW : s.WarmedH U.vm) (hAB : ∀ q, B q → A q) : mj_Zok Zs B U H := ⟨fun z hz => (((h.1 z hz).kept hk).moved hW.alike).narrow hAB, fun r hr => (h.2.1 r hr).warm hW, ((h.2.2.kept hk).moved hW.alike).narrow hAB⟩
theorem mj_Zok.same {Zs : mj_Z} {A : Nat → Prop} {u U : State} {H : Heap} (hv : U.vm = u.vm) (h : mj_Zok Zs A u H) : mj_Zok Zs A U H := ⟨fun z hz => (h.1 z hz).moved (by rw [hv]; exact Vm.Alike.refl _), fun r hr => vk_R.same hv (h.2.1 r hr), h.2.2.moved (by rw [hv]; exact Vm.Alike.refl _)⟩
/-- words that a contract's own list can't bear: they go beside it -/
def mj_xw (w : Cond) : Bool := match w with
  | .fieldLinkNest _ _ _ _ _ _ => true
  | .methodLinkNest _ _ _ _ => true
  | .castable _ _ => true
  | .arrayOver (.object _) => true
  | _ => false
theorem mj_xw_of {w : Cond} (h : mj_xw w = true) {a : Array Value} {U : State} (hb : w.before a U = true) : va_Nw w U := by
  unfold mj_xw at h
  split at h
  · exact va_Nw.of rfl hb
  · exact va_Nw.of rfl hb
  · exact va_Nw.of rfl hb
  · exact hb
  · cases h
theorem mj_xw_use {w : Cond} (h : mj_xw w = true) {a : Array Value} {U : State} (hb : va_Nw w U) : w.before a U = true := by
  unfold mj_xw at h
  split at h
  · exact va_Nw.use rfl hb
  · exact va_Nw.use rfl hb
  · exact va_Nw.use rfl hb
  · exact hb
  · cases h
theorem mj_xw_warm {w : Cond} (h : mj_xw w = true) {s U : State} (hW : s.WarmedH U.vm) (hb : va_Nw w s) : va_Nw w U := by
  unfold mj_xw at h
  split at h
  · exact va_Nw.warmF hW hb
  · exact va_Nw.warmM hW hb
  · exact va_Nw.warmC hW hb
  · rename_i C; exact va_AO.moved (C := C) hW.alike hb
  · cases h
theorem mj_xw_vm {w : Cond} (h : mj_xw w = true) {u U : State} (hvm : u.vm = U.vm) (hb : va_Nw w u) : va_Nw w U := by
  unfold mj_xw at h
  split at h
  · exact va_Nw.same rfl hvm hb
  · exact va_Nw.same rfl hvm hb
  · exact va_Nw.same rfl hvm hb
  · rename_i C; exact va_AO.moved (C := C) (by rw [hvm]; exact Vm.Alike.refl _) hb
  · cases h
def mj_Nok (Ns : List Cond) (U : State) : Prop := ∀ w ∈ Ns, mj_xw w = true ∧ va_Nw w U
def mj_Pc (Ns : List Cond) (Zs : mj_Z) (xt : mj_X) (xa : Nat → Nat) (D : va_G) (cl : List vw_C) (tys : List (ClassId × FieldType)) (c0 : Nat) (ad : List Nat) (As : List Value) (h : mj_H) (sz : Nat) : Array Value → State → Prop := fun v U => v = (mj_vs ad As).toArray ∧ U.heap.size = sz ∧ va_K D cl tys U ∧ mj_Nok Ns U ∧ mj_Zok Zs (mj_A tys ad h c0 sz) U U.heap ∧ mj_Xok xt c0 xa (mj_A tys ad h c0 sz) U U.heap ∧ mj_I D cl tys (mj_A tys ad h c0 sz) c0 U.heap ad h U.heap []
def mj_Qc (D : va_G) (cl : List vw_C) (tys : List (ClassId × FieldType)) (c0 : Nat) (ad : List Nat) (h : mj_H) (sz : Nat) (r : Option Value) (h' : mj_H) : Array Value → State → Outcome → State → Prop := fun _ st o t => ∃ b, o = .returned (r.map (mj_v (ad ++ b))) ∧ mj_I D cl tys (mj_A tys ad h c0 sz) c0 st.heap (ad ++ b) h' t.heap []
def mj_rm (Zs : mj_Z) (d : Nat) (h h' : mj_H) : Room := { frames := d + Zs.2.2.2.1, cells := h'.length - h.length, slots := mj_sl h' - mj_sl h, locals := d * 40 + Zs.2.2.2.2 }
def mj_ws (Ts : List Cond) (M : mj_M) : List Cond := Cond.code M.1.1 M.1.2.1 M.1.2.2.1 M.1.2.2.2 :: Ts
/-- every call's contract -/
def mj_sound (l : Launch) (Ns : List Cond) (Zs : mj_Z) (xt : mj_X) (D : va_G) (cl : List vw_C) (tys : List (ClassId × FieldType)) (c0 : Nat) (xa : Nat → Nat) (Tg : List Cond) (mm : Nat → Option mj_M) (call : Nat → List Value → mj_H → mj_R) (d : Nat) : Prop :=
  ∀ (k : Nat) (M : mj_M) (As : List Value) (h : mj_H) (r : Option Value) (h' : mj_H), mm k = some M → call k As h = some (r, h') → mj_sok h.length As → ∀ (ad : List Nat) (sz : Nat), (∀ k, k < c0 → ad.getD k 0 = xa k) →
    Met l M.1.1 (mj_ws Tg M) (mj_rm Zs d h h') (mj_Pc Ns Zs xt xa D cl tys c0 ad As h sz) (mj_Qc D cl tys c0 ad h sz r h') (h'.length - h.length) (mj_sl h' - mj_sl h) (mj_A tys ad h c0 sz)
def mj_n7 : MethodName := ⟨"ArrayCalculator$Tokens", "sortOfByte", "(I)I"⟩
def mj_w7 : Cond := Cond.code mj_n7 prog_10_method_13_code 1 (some .int)
def mj_r7 : Room := { frames := 5, cells := 0, slots := 0, locals := 200 }
/-- the contract of sortOfByte, where it is wanted -/
def mj_S7 (l : Launch) (Ns : List Cond) (Zs : mj_Z) (xt : mj_X) (xa : Nat → Nat) (D : va_G) (cl : List vw_C) (tys : List (ClassId × FieldType)) (c0 : Nat) (Tg : List Cond) : Prop :=
  mj_w7 ∈ Tg → 5 ≤ Zs.2.2.2.1 ∧ 200 ≤ Zs.2.2.2.2 ∧ ∀ (c : Int32) (ad : List Nat) (h : mj_H) (sz : Nat), c < 256 → Met l mj_n7 (mj_w7 :: Tg) mj_r7 (mj_Pc Ns Zs xt xa D cl tys c0 ad [.int c] h sz) (mj_Qc D cl tys c0 ad h sz (some (.int (mj_sob c))) h) 0 0 (mj_A tys ad h c0 sz)
/-- the words of the JDK's own -/
def mj_pw (own : String) (x op : Nat) : List Cond := match op with
  | 0 => [Cond.methodLink own x Lib.Math.max.name, Cond.static Lib.Math.max.name, Cond.initialized "java/lang/Math", Cond.code Lib.Math.max.name Lib.Math.max.code 2 (some .int)]
  | 1 => [Cond.methodLink own x Lib.Math.min.name, Cond.static Lib.Math.min.name, Cond.initialized "java/lang/Math", Cond.code Lib.Math.min.name Lib.Math.min.code 2 (some .int)]
  | 2 => [Cond.methodLink own x Lib.Math.abs.name, Cond.static Lib.Math.abs.name, Cond.initialized "java/lang/Math", Cond.code Lib.Math.abs.name Lib.Math.abs.code 1 (some .int)]
  | 3 => [Cond.methodLink own x Lib.MathLoose.max_long.x, Cond.static Lib.MathLoose.max_long.x, Cond.initialized "java/lang/Math", Cond.code Lib.MathLoose.max_long.x Lib.MathLoose.max_long.code 4 (some .long)]
  | 4 => [Cond.methodLink own x Lib.MathLoose.min_long.x, Cond.static Lib.MathLoose.min_long.x, Cond.initialized "java/lang/Math", Cond.code Lib.MathLoose.min_long.x Lib.MathLoose.min_long.code 4 (some .long)]
  | 5 => [Cond.methodLink own x Lib.MathLoose.abs_long.x, Cond.static Lib.MathLoose.abs_long.x, Cond.initialized "java/lang/Math", Cond.code Lib.MathLoose.abs_long.x Lib.MathLoose.abs_long.code 2 (some .long)]
  | 6 => [Cond.methodLink own x arraycopyName, Cond.static arraycopyName, Cond.initialized "java/lang/System", Cond.native arraycopyName]
  | 7 => [Cond.methodLink own x mj_n7, Cond.static mj_n7, Cond.initialized mj_n7.cls, mj_w7]
  | 8 => [Cond.methodLink own x ⟨"[J", "clone", "()Ljava/lang/Object;"⟩, Cond.sameMethod "[J" "java/lang/Object" "clone" "()Ljava/lang/Object;", Cond.native ⟨"java/lang/Object", "clone", "()Ljava/lang/Object;"⟩, Cond.instanceMethod ⟨"java/lang/Object", "clone", "()Ljava/lang/Object;"⟩, Cond.selects "[J" ⟨"[J", "clone", "()Ljava/lang/Object;"⟩ ⟨"java/lang/Object", "clone", "()Ljava/lang/Object;"⟩, Cond.castable "[J" "java/lang/Cloneable"]
  | 9 => [Cond.classLink own x "[J"]
  | _ => []
/-- what a class's calls rest on -/
def mj_okM (Ts : List Cond) (cl : List vw_C) (own : String) (mt : mj_C) (mm : Nat → Option mj_M) : Prop :=
  ∀ x kd k n ci, mt x = some (kd, k, n, ci) → (kd = 0 → Cond.methodLink own x objectInit ∈ Ts ∧ Cond.instanceMethod objectInit ∈ Ts ∧ Cond.code objectInit ⟨#[0xb1]⟩ 1 none ∈ Ts) ∧
    (kd = 4 → ∀ w ∈ mj_pw own x k, w ∈ Ts) ∧ (kd ≠ 0 → kd ≠ 4 → ∃ M : mj_M, mm k = some M ∧ Cond.code M.1.1 M.1.2.1 M.1.2.2.1 M.1.2.2.2 ∈ Ts ∧ Cond.initialized M.1.1.cls ∈ Ts ∧ (M.1.1.cls ≠ "java/lang/invoke/MethodHandle" ∧ M.1.1.cls ≠ "java/lang/invoke/VarHandle" ∧ (parseMethodDescriptor M.1.1.desc).map (fun d => d.parameters.length) = some n) ∧ M.1.2.2.1 ≤ 21 ∧ (Cond.methodLink own x M.1.1 ∈ Ts ∨ ∃ host, Cond.methodLinkNest own x M.1.1 host ∈ Ts) ∧
      (kd = 1 → Cond.instanceMethod M.1.1 ∈ Ts ∧ ∃ r : vw_C, cl[ci]? = some r ∧ Cond.selects r.1 M.1.1 M.1.1 ∈ Ts) ∧ (kd = 2 → Cond.static M.1.1 ∈ Ts) ∧ (kd = 3 → Cond.instanceMethod M.1.1 ∈ Ts ∧ M.1.1.name = "<init>" ∧ M.1.2.2.2 = none))
def mj_good (Ts : List Cond) : Prop := ∀ w ∈ Ts, (w.onTables && w.keeps) = true ∨ ∃ ty, w = .arrayClass ty
theorem mj_goodIn {Tg Ns : List Cond} (hg : mj_good Tg) (hN : ∀ w ∈ Ns, mj_xw w = true) {M : mj_M} (hc : Cond.code M.1.1 M.1.2.1 M.1.2.2.1 M.1.2.2.2 ∈ Tg ++ Ns) : GoodIn (Tg ++ Ns) (mj_ws Tg M) := by
  have hc2 : Cond.code M.1.1 M.1.2.1 M.1.2.2.1 M.1.2.2.2 ∈ Tg := (List.mem_append.mp hc).elim id (fun z => absurd (hN _ z) (by simp [mj_xw]))
  intro w hw
  rcases List.mem_cons.mp hw with rfl | hw
  · exact ⟨hc, hg _ hc2⟩
  · exact ⟨List.mem_append_left _ hw, hg _ hw⟩
section MJ11
variable {p : Program} {l : Launch} {e : Env} {R : Room} {s : State} {m : MethodId} {args : Array Value} {below : List Frame} {meth : Method} {c : Code} {H : Heap} {locs : List Loc} {cells slots : Nat} {Q : State → Prop}
variable {cc : ByteArray} {pc nL d : Nat} {ls : Array Slot} {ad : List Nat}
variable {D : va_G} {cl : List vw_C} {tys : List (ClassId × FieldType)} {A : Nat → Prop} {c0 : Nat} {h h' : mj_H} {S : List Value} {Ts : List Cond} {own : String} {T : mj_T} {tl : List (FieldType × Nat)} {ini : Bool} {xa : Nat → Nat} {mt : mj_C} {mm : Nat → Option mj_M} {call : Nat → List Value → mj_H → mj_R} {Zs : mj_Z} {xt : mj_X} {Tg Ns : List Cond}
theorem mj_A_in (hI : mj_I D cl tys A c0 s.heap ad h H locs) (hAq : ∀ q, s.heap.size ≤ q → A q) : ∀ q, mj_A tys ad h c0 H.size q → A q := by
  rintro q (⟨k, e, hk⟩ | hq)
  · exact hI.2.2.2.2.1.2 k _ hk
  · exact hAq q (Nat.le_trans hI.2.2.2.2.2.1.1 hq)
theorem mj_I_callee (hI : mj_I D cl tys A c0 s.heap ad h H locs) (hAq : ∀ q, s.heap.size ≤ q → A q) : mj_I D cl tys (mj_A tys ad h c0 H.size) c0 H ad h H [] := by
  exact ⟨hI.1, hI.2.1, hI.2.2.1, hI.2.2.2.1, hI.2.2.2.2.1.self, va_S.rf, trivial⟩
theorem mj_getD_app {b : List Nat} (hl : c0 ≤ ad.length) {k : Nat} (hk : k < c0) : (ad ++ b).getD k 0 = ad.getD k 0 := by
  rw [List.getD_eq_getElem?_getD, List.getD_eq_getElem?_getD, List.getElem?_append_left (Nat.lt_of_lt_of_le hk hl)]
theorem mj_I_back (hI : mj_I D cl tys A c0 s.heap ad h H locs) (hAq : ∀ q, s.heap.size ≤ q → A q) {b : List Nat} {H1 : Heap} {L : List Loc} (h1 : mj_I D cl tys (mj_A tys ad h c0 H.size) c0 H (ad ++ b) h' H1 []) (hL : ∀ q ∈ L, mj_A tys ad h c0 H.size q.base) : mj_I D cl tys A c0 s.heap (ad ++ b) h' H1 (locs ++ L) := by
  have hA1 := mj_A_in hI hAq
  have hS := hI.2.2.2.2.2.1
  have hS1 := h1.2.2.2.2.2.1
  refine ⟨h1.1, h1.2.1, h1.2.2.1, h1.2.2.2.1, h1.2.2.2.2.1.weaken (fun _ q _ z => hA1 _ z), ⟨Nat.le_trans hS.1 hS1.1, fun q z1 z2 => ?_, fun q hq => ?_⟩, trivial⟩
  · rw [hS1.2.1 q (Nat.lt_of_lt_of_le z1 hS.1) (fun z => z2 (hA1 q z))]
    exact hS.2.1 q z1 z2
  · rcases List.mem_append.mp hq with hq | hq
    · exact hS.2.2 q hq
    · exact hA1 _ (hL q hq)
theorem mj_Run_W {r : Option Value} {rest : List Value} {st0 : List Value} {a : Array Value} (hI : mj_I D cl tys A c0 s.heap ad h H locs) (hAq : ∀ q, s.heap.size ≤ q → A q) (hrest : mj_sok h.length rest)
    (hr : va_Run p l e R s m args below meth c H locs cells slots (h'.length - h.length) (mj_sl h' - mj_sl h) (F0 m pc ls st0) (mj_vs ad rest) (mj_Qc D cl tys c0 ad h H.size r h' a) (mj_A tys ad h c0 H.size))
    (kk : ∀ b H' locs', mj_I D cl tys A c0 s.heap (ad ++ b) h' H' locs' → W p l e R s m args below meth c H' locs' (cells + (h'.length - h.length)) (slots + (mj_sl h' - mj_sl h)) Q (F0 m (pc + 3) ls (mj_vs (ad ++ b) (r.toList ++ rest)))) : W p l e R s m args below meth c H locs cells slots Q (F0 m pc ls st0) := by
  intro T hT X
  obtain ⟨v, st₀, t, T', L, h0, X', hL, e1, e2, ⟨b, hv, h1⟩, st⟩ := hr T hT X
  have hv2 : v = r.map (mj_v (ad ++ b)) := by
    injection hv
  rw [h0, ← e1] at h1
  obtain ⟨t2, a1, b1⟩ := kk b T'.heap (locs ++ L) (mj_I_back hI hAq h1 hL) T' rfl X'
  refine ⟨t2, st t2 ?_, b1⟩
  have e3 : mj_vs (ad ++ b) (r.toList ++ rest) = v.toList ++ mj_vs ad rest := by
    unfold mj_vs
    rw [List.map_append, hv2]
    congr 1
    · cases r <;> rfl
    · exact mj_vs_app (by rw [hI.1]; exact hrest)
  rw [e3] at a1
  exact a1
theorem mj_blind (Ns : List Cond) (Zs : mj_Z) (xt : mj_X) (xa : Nat → Nat) (D : va_G) (cl : List vw_C) (tys : List (ClassId × FieldType)) (c0 : Nat) (ad : List Nat) (As : List Value) (h : mj_H) (sz : Nat) : FrameBlind (mj_Pc Ns Zs xt xa D cl tys c0 ad As h sz) := by
  intro a U g mk q
  obtain ⟨q0, q1, qK, qN, qZ, qX, qI⟩ := q
  exact ⟨q0, q1, va_K.moved (u := U) (U := U.calling g mk a) (Vm.Alike.refl U.vm) qK, fun w hw => ⟨(qN w hw).1, mj_xw_vm (qN w hw).1 (u := U) rfl (qN w hw).2⟩, qZ.same (u := U) (U := U.calling g mk a) rfl, fun k ty n f hk => ⟨(qX k ty n f hk).1, (qX k ty n f hk).2.moved (u := U) (U := U.calling g mk a) (Vm.Alike.refl U.vm)⟩, qI⟩
set_option maxHeartbeats 4000000 in
theorem mj_inv_W (hC : mj_Ctx p s m args meth c cc nL D cl tys tl A c0 (Tg ++ Ns) own T ini) (hM : mj_okM (Tg ++ Ns) cl own mt mm) (hg : mj_good Tg) (hNx : ∀ w ∈ Ns, mj_xw w = true) (hZ : mj_Zok Zs A s s.heap) (hX : mj_Xok xt c0 xa A s s.heap) (hsound : mj_sound l Ns Zs xt D cl tys c0 xa Tg mm call d) (hRf : d + Zs.2.2.2.1 + 1 ≤ R.frames) (hRl : (d + 1) * 40 + Zs.2.2.2.2 ≤ R.locals) {i : Instr} {k : Nat} {As rest : List Value} {r : Option Value} (hi : mj_inv mt c0 i S h = some (k + 1, As, rest)) (hk : call k As h = some (r, h')) (hdg : decode cc pc = .ok (i, 3)) (hI : mj_I D cl tys A c0 s.heap ad h H locs) (hxa : ∀ k, k < c0 → ad.getD k 0 = xa k) (hS : mj_sok h.length S) (hls : ls.size = nL)
    (hrc : cells + (h'.length - h.length) ≤ R.cells) (hrs : slots + (mj_sl h' - mj_sl h) ≤ R.slots)
    (kk : ∀ b H' locs', mj_I D cl tys A c0 s.heap (ad ++ b) h' H' locs' → W p l e R s m args below meth c H' locs' (cells + (h'.length - h.length)) (slots + (mj_sl h' - mj_sl h)) Q (F0 m (pc + 3) ls (mj_vs (ad ++ b) (r.toList ++ rest)))) : W p l e R s m args below meth c H locs cells slots Q (F0 m pc ls (mj_vs ad S)) := by
  obtain ⟨hx, hb, hml, hts, hown, hK, htl, hAq, hini, hF, hCn, hN, hA, hS0⟩ := hC
  have fix : CallFix p m c cc nL s args (Tg ++ Ns) own := ⟨hx, hb, hml, hown, hts⟩
  obtain ⟨hAs, hrest⟩ := mj_inv_ok hi hS
  have hrev : ∀ n, (mj_vs ad (S.take n)).reverse = mj_vs ad (S.take n).reverse := fun n => by unfold mj_vs; rw [List.map_reverse]
  have hroom : ∀ {n : Nat}, n ≤ 21 → 8 + (n + 11) + (mj_rm Zs d h h').locals ≤ R.locals := fun {n} z => by
    have h40 : 8 + (n + 11) ≤ 40 := by omega
    have e40 : (d + 1) * 40 + Zs.2.2.2.2 = 40 + (d * 40 + Zs.2.2.2.2) := by rw [Nat.succ_mul, Nat.add_comm (d * 40) 40, Nat.add_assoc]
    rw [e40] at hRl
    exact Nat.le_trans (Nat.add_le_add_right h40 _) hRl
  have hcat : ∀ {st : List Value}, mj_room st = true → ((mj_vs ad st).map fun v => v.category).sum ≤ 8 := fun {st} z => by
    have h1 : (st.map fun v => v.category).sum ≤ 8 := of_decide_eq_true z
    unfold mj_vs
    rw [List.map_map]
    rw [show ((fun v => v.category) ∘ mj_v ad) = (fun v : Value => v.category) from funext fun v => mj_v_cat ad v]
    exact h1
  have hpre : ∀ U : State, U.heap = H → s.WarmedH U.vm → mj_Pc Ns Zs xt xa D cl tys c0 ad As h H.size (mj_vs ad As).toArray U := fun U hU hW => ⟨rfl, by rw [hU], va_K.moved hW.alike hK, fun w hw => ⟨hNx w hw, mj_xw_warm (hNx w hw) hW (mj_xw_of (hNx w hw) (hts w (List.mem_append_right _ hw)))⟩, by rw [hU]; exact hZ.call (fun a h1 h2 => hI.2.2.2.2.2.1.2.1 a h1 h2) hW (mj_A_in hI hAq), fun k ty n f hk => ⟨(hX k ty n f hk).1, by rw [hU]; exact (((hX k ty n f hk).2.kept (fun a h1 h2 => hI.2.2.2.2.2.1.2.1 a h1 h2)).moved hW.alike).narrow (mj_A_in hI hAq)⟩, by rw [hU]; exact mj_I_callee hI hAq⟩
  unfold mj_inv at hi
  split at hi
  · rename_i x
    split at hi
    · rename_i k1 n ci hm
      split at hi
      · rename_i a rest1 hr
        split at hi
        · rename_i c1 fs he
          split at hi
          · rename_i hc
            obtain ⟨rfl, hca, hro⟩ := hc
            obtain ⟨h1, h2⟩ := Prod.mk.inj (Option.some.inj hi)
            obtain ⟨rfl, rfl⟩ := Prod.mk.inj h2
            obtain rfl : k1 = k := Nat.succ.inj h1
            obtain ⟨M, hMk, hco, hin, hd, hmx, hlink, hv1, -, -⟩ := (hM _ _ _ _ _ hm).2.2 (by decide) (by decide)
            obtain ⟨hinst, q, hq, hsel⟩ := hv1 rfl
            have hMet := hsound _ _ _ _ _ _ hMk hk hAs ad H.size hxa
            have hn : n < S.length := Nat.lt_of_not_le fun z => by rw [List.drop_eq_nil_of_le z] at hr; cases hr
            have hlen : (mj_vs ad (S.take n)).reverse.length = n := by rw [List.length_reverse]; unfold mj_vs; rw [List.length_map, List.length_take]; omega
            have hst : mj_vs ad S = (mj_vs ad (S.take n)).reverse.reverse ++ .ref (ad.getD a 0) :: mj_vs ad rest1 := by
              rw [List.reverse_reverse]
              conv => lhs; rw [← List.take_append_drop n S, hr]
              unfold mj_vs
              rw [List.map_append]
              rfl
            have eA : (Value.ref (ad.getD a 0) :: (mj_vs ad (S.take n)).reverse).toArray = (mj_vs ad (.ref a :: (S.take n).reverse)).toArray := by rw [hrev]; rfl
            have hP := mj_I_at hI hca he
            have hp : PreV s H q.1 (ad.getD a 0) (mj_Pc Ns Zs xt xa D cl tys c0 ad (.ref a :: (S.take n).reverse) h H.size) (mj_vs ad (S.take n)).reverse := ⟨mj_blind _ _ _ _ _ _ _ _ _ _ _ _, va_recv hK hP hq (q0 := 0) rfl, fun U hU hW => by rw [eA]; exact hpre U hU hW⟩
            rcases hlink with hl | ⟨host, hl⟩
            · have cw := callB_of (R := R) (rm := mj_rm Zs d h h') (ws := mj_ws Tg M) n hts (mj_goodIn hg hNx hco) rfl rfl rfl (hts _ hin) (hts _ hl) hd ⟨hRf, hroom hmx⟩
              exact mj_Run_W hI hAq hrest (va_runV fix hMet ⟨cw, hts _ hinst, hts _ hsel⟩ hp rfl hlen hls hst (lv_room (hcat hro)) hdg ⟨hrc, hrs⟩) kk
            · have cw := va_cnB (R := R) (rm := mj_rm Zs d h h') (ws := mj_ws Tg M) n hts (mj_goodIn hg hNx hco) rfl rfl rfl (va_Nw.of rfl (hts _ hl)) (hts _ hin) hd ⟨hRf, hroom hmx⟩
              exact mj_Run_W hI hAq hrest (va_runVN fix hMet ⟨cw, hts _ hinst, hts _ hsel⟩ hp rfl hlen hls hst (lv_room (hcat hro)) hdg ⟨hrc, hrs⟩) kk
          · cases hi
        · cases hi
      · cases hi
    · cases hi
  · rename_i x
    split at hi
    · rename_i k1 n ci hm
      split at hi
      · rename_i hc
        obtain ⟨hn, hro⟩ := hc
        obtain ⟨h1, h2⟩ := Prod.mk.inj (Option.some.inj hi)
        obtain ⟨rfl, rfl⟩ := Prod.mk.inj h2
        obtain rfl : k1 = k := Nat.succ.inj h1
        obtain ⟨M, hMk, hco, hin, hd, hmx, hlink, -, hv2, -⟩ := (hM _ _ _ _ _ hm).2.2 (by decide) (by decide)
        have hstat := hv2 rfl
        have hMet := hsound _ _ _ _ _ _ hMk hk hAs ad H.size hxa
        have hlen : (mj_vs ad (S.take n)).reverse.length = n := by rw [List.length_reverse]; unfold mj_vs; rw [List.length_map, List.length_take]; omega
        have hst : mj_vs ad S = (mj_vs ad (S.take n)).reverse.reverse ++ mj_vs ad (S.drop n) := by
          rw [List.reverse_reverse]
          conv => lhs; rw [← List.take_append_drop n S]
          unfold mj_vs
          rw [List.map_append]
        have eA : ((mj_vs ad (S.take n)).reverse).toArray = (mj_vs ad (S.take n).reverse).toArray := by rw [hrev]
        have hp : PreS s H (mj_Pc Ns Zs xt xa D cl tys c0 ad (S.take n).reverse h H.size) (mj_vs ad (S.take n)).reverse := ⟨mj_blind _ _ _ _ _ _ _ _ _ _ _ _, fun U hU hW => by rw [eA]; exact hpre U hU hW⟩
        rcases hlink with hl | ⟨host, hl⟩
        · have cw := callB_of (R := R) (rm := mj_rm Zs d h h') (ws := mj_ws Tg M) n hts (mj_goodIn hg hNx hco) rfl rfl rfl (hts _ hin) (hts _ hl) hd ⟨hRf, hroom hmx⟩
          exact mj_Run_W hI hAq hrest (va_runS fix hMet ⟨cw, hts _ hstat⟩ hp rfl hlen hls hst (lv_room (hcat hro)) hdg ⟨hrc, hrs⟩) kk
        · have cw := va_cnB (R := R) (rm := mj_rm Zs d h h') (ws := mj_ws Tg M) n hts (mj_goodIn hg hNx hco) rfl rfl rfl (va_Nw.of rfl (hts _ hl)) (hts _ hin) hd ⟨hRf, hroom hmx⟩
          exact mj_Run_W hI hAq hrest (va_runSN fix hMet ⟨cw, hts _ hstat, trivial⟩ hp rfl hlen hls hst (lv_room (hcat hro)) hdg ⟨hrc, hrs⟩) kk
      · cases hi
    · cases hi
  · rename_i x
    split at hi
    · split at hi
      · split at hi
        · cases hi
        · cases hi
      · cases hi
    · rename_i k1 n ci hm
      split at hi
      · rename_i a rest1 hr
        split at hi
        · rename_i hro
          obtain ⟨h1, h2⟩ := Prod.mk.inj (Option.some.inj hi)
          obtain ⟨rfl, rfl⟩ := Prod.mk.inj h2
          obtain rfl : k1 = k := Nat.succ.inj h1
          obtain ⟨M, hMk, hco, hin, hd, hmx, hlink, -, -, hv3⟩ := (hM _ _ _ _ _ hm).2.2 (by decide) (by decide)
          obtain ⟨hinst, hnm, hret⟩ := hv3 rfl
          have hMet := hsound _ _ _ _ _ _ hMk hk hAs ad H.size hxa
          have hn : n < S.length := Nat.lt_of_not_le fun z => by rw [List.drop_eq_nil_of_le z] at hr; cases hr
          have hlen : (mj_vs ad (S.take n)).reverse.length = n := by rw [List.length_reverse]; unfold mj_vs; rw [List.length_map, List.length_take]; omega
          have hst : mj_vs ad S = (mj_vs ad (S.take n)).reverse.reverse ++ .ref (ad.getD a 0) :: mj_vs ad rest1 := by
            rw [List.reverse_reverse]
            conv => lhs; rw [← List.take_append_drop n S, hr]
            unfold mj_vs
            rw [List.map_append]
            rfl
          have eA : (Value.ref (ad.getD a 0) :: (mj_vs ad (S.take n)).reverse).toArray = (mj_vs ad (.ref a :: (S.take n).reverse)).toArray := by rw [hrev]; rfl
          have hp : PreS s H (mj_Pc Ns Zs xt xa D cl tys c0 ad (.ref a :: (S.take n).reverse) h H.size) (.ref (ad.getD a 0) :: (mj_vs ad (S.take n)).reverse) := ⟨mj_blind _ _ _ _ _ _ _ _ _ _ _ _, fun U hU hW => by rw [eA]; exact hpre U hU hW⟩
          have hws : mj_ws Tg M = Cond.code M.1.1 M.1.2.1 M.1.2.2.1 none :: Tg := by unfold mj_ws; rw [hret]
          rcases hlink with hl | ⟨host, hl⟩
          · have cw := callB_of (R := R) (rm := mj_rm Zs d h h') (ws := mj_ws Tg M) n hts (mj_goodIn hg hNx hco) hws rfl rfl (hts _ hin) (hts _ hl) hd ⟨hRf, hroom hmx⟩
            exact mj_Run_W hI hAq hrest (va_runI fix hMet ⟨cw, hnm, hts _ hinst⟩ hp rfl hlen hls hst (lv_room (hcat hro)) hdg ⟨hrc, hrs⟩) kk
          · have cw := va_cnB (R := R) (rm := mj_rm Zs d h h') (ws := mj_ws Tg M) n hts (mj_goodIn hg hNx hco) hws rfl rfl (va_Nw.of rfl (hts _ hl)) (hts _ hin) hd ⟨hRf, hroom hmx⟩
            exact mj_Run_W hI hAq hrest (va_runIN fix hMet ⟨cw, hnm, hts _ hinst⟩ hp rfl hlen hls hst (lv_room (hcat hro)) hdg ⟨hrc, hrs⟩) kk
        · cases hi
      · cases hi
    · cases hi
  · cases hi
set_option maxHeartbeats 4000000 in
theorem mj_prim_W (hC : mj_Ctx p s m args meth c cc nL D cl tys tl A c0 (Tg ++ Ns) own T ini) (hM : mj_okM (Tg ++ Ns) cl own mt mm) (h7 : mj_S7 l Ns Zs xt xa D cl tys c0 Tg) (hg : mj_good Tg) (hNx : ∀ w ∈ Ns, mj_xw w = true) (hZ : mj_Zok Zs A s s.heap) (hX : mj_Xok xt c0 xa A s s.heap) (hRf9 : 1 + Zs.2.2.2.1 ≤ R.frames) (hRl9 : 40 + Zs.2.2.2.2 ≤ R.locals) (hcc1 : cells + (h'.length - h.length) ≤ R.cells) (hss1 : slots + (mj_sl h' - mj_sl h) ≤ R.slots) {i : Instr} {S' : List Value} (hp : mj_prim mt tl c0 i S h = some (S', h')) (hdg : decode cc pc = .ok (i, 3)) (hI : mj_I D cl tys A c0 s.heap ad h H locs) (hok : mj_sok h.length S) (hls : ls.size = nL)
    (kb : ∀ b H' locs', mj_I D cl tys A c0 s.heap (ad ++ b) h' H' locs' → W p l e R s m args below meth c H' locs' (cells + (h'.length - h.length)) (slots + (mj_sl h' - mj_sl h)) Q (F0 m (pc + 3) ls (mj_vs (ad ++ b) S'))) : W p l e R s m args below meth c H locs cells slots Q (F0 m pc ls (mj_vs ad S)) := by
  obtain ⟨hx, hb, hml, hts, hown, hK, htl, hAq, hini, hF, hCn, hN, hA, hS0⟩ := hC
  have hml2 : c.maxLocals = ls.size := hml.trans hls.symm
  have hRf : 1 ≤ R.frames := Nat.le_trans (Nat.le_add_right _ _) hRf9
  have hRl : 40 ≤ R.locals := Nat.le_trans (Nat.le_add_right _ _) hRl9
  have hcc : cells ≤ R.cells := Nat.le_trans (Nat.le_add_right _ _) hcc1
  have hss : slots ≤ R.slots := Nat.le_trans (Nat.le_add_right _ _) hss1
  have kk : h'.length = h.length → mj_sl h' = mj_sl h → ∀ H' locs', mj_I D cl tys A c0 s.heap ad h' H' locs' → W p l e R s m args below meth c H' locs' cells slots Q (F0 m (pc + 3) ls (mj_vs ad S')) := fun e1 e2 H' locs' hI' => by
    have k1 := kb [] H' locs' (by rw [List.append_nil]; exact hI')
    rw [List.append_nil, e1, e2, Nat.sub_self, Nat.sub_self] at k1
    exact k1
  have hcat : ∀ {st : List Value}, mj_room st = true → ((mj_vs ad st).map fun v => v.category).sum ≤ 8 := fun {st} z => by
    have h1 : (st.map fun v => v.category).sum ≤ 8 := of_decide_eq_true z
    unfold mj_vs
    rw [List.map_map]
    rw [show ((fun v => v.category) ∘ mj_v ad) = (fun v : Value => v.category) from funext fun v => mj_v_cat ad v]
    exact h1
  unfold mj_prim at hp
  split at hp
  · rename_i x
    split at hp
    · rename_i op n ci hm
      have hw := (hM _ _ _ _ _ hm).2.1 rfl
      unfold mj_pr at hp
      split at hp
      · split at hp
        · rename_i hro
          obtain ⟨rfl, rfl⟩ := Prod.mk.inj (Option.some.inj hp)
          have hs8 := hcat hro
          exact va_mmax hx hb hml2 hown (hts _ (hw _ (by simp [mj_pw]))) (hts _ (hw _ (by simp [mj_pw]))) (hts _ (hw _ (by simp [mj_pw]))) (hts _ (hw _ (by simp [mj_pw]))) hRf (Nat.le_trans (Nat.add_le_add_right hs8 13) (by omega)) hcc hss hdg (kk rfl rfl _ _ hI)
        · cases hp
      · split at hp
        · rename_i hro
          obtain ⟨rfl, rfl⟩ := Prod.mk.inj (Option.some.inj hp)
          have hs8 := hcat hro
          exact va_mmin hx hb hml2 hown (hts _ (hw _ (by simp [mj_pw]))) (hts _ (hw _ (by simp [mj_pw]))) (hts _ (hw _ (by simp [mj_pw]))) (hts _ (hw _ (by simp [mj_pw]))) hRf (Nat.le_trans (Nat.add_le_add_right hs8 13) (by omega)) hcc hss hdg (kk rfl rfl _ _ hI)
        · cases hp
      · split at hp
        · rename_i hro
          obtain ⟨rfl, rfl⟩ := Prod.mk.inj (Option.some.inj hp)
          have hs8 := hcat hro
          exact va_mabs hx hb hml2 hown (hts _ (hw _ (by simp [mj_pw]))) (hts _ (hw _ (by simp [mj_pw]))) (hts _ (hw _ (by simp [mj_pw]))) (hts _ (hw _ (by simp [mj_pw]))) hRf (Nat.le_trans (Nat.add_le_add_right hs8 13) (by omega)) hcc hss hdg (kk rfl rfl _ _ hI)
        · cases hp
      · split at hp
        · rename_i hro
          obtain ⟨rfl, rfl⟩ := Prod.mk.inj (Option.some.inj hp)
          have hs8 := hcat hro
          exact va_mmax_long hx hb hml2 hown (hts _ (hw _ (by simp [mj_pw]))) (hts _ (hw _ (by simp [mj_pw]))) (hts _ (hw _ (by simp [mj_pw]))) (hts _ (hw _ (by simp [mj_pw]))) hRf (Nat.le_trans (Nat.add_le_add_right hs8 15) (by omega)) hcc hss hdg (kk rfl rfl _ _ hI)
        · cases hp
      · split at hp
        · rename_i hro
          obtain ⟨rfl, rfl⟩ := Prod.mk.inj (Option.some.inj hp)
          have hs8 := hcat hro
          exact va_mmin_long hx hb hml2 hown (hts _ (hw _ (by simp [mj_pw]))) (hts _ (hw _ (by simp [mj_pw]))) (hts _ (hw _ (by simp [mj_pw]))) (hts _ (hw _ (by simp [mj_pw]))) hRf (Nat.le_trans (Nat.add_le_add_right hs8 15) (by omega)) hcc hss hdg (kk rfl rfl _ _ hI)
        · cases hp
      · split at hp
        · rename_i hro
          obtain ⟨rfl, rfl⟩ := Prod.mk.inj (Option.some.inj hp)
          have hs8 := hcat hro
          exact va_mabs_long hx hb hml2 hown (hts _ (hw _ (by simp [mj_pw]))) (hts _ (hw _ (by simp [mj_pw]))) (hts _ (hw _ (by simp [mj_pw]))) (hts _ (hw _ (by simp [mj_pw]))) hRf (Nat.le_trans (Nat.add_le_add_right hs8 13) (by omega)) hcc hss hdg (kk rfl rfl _ _ hI)
        · cases hp
      · split at hp
        · rename_i t0 n0 f t1 n1 g he0 he1
          split at hp
          · rename_i hc
            obtain ⟨hro, hca, hcb, rfl, rfl, htl1, h1, h2, h3, h4, h5⟩ := hc
            obtain ⟨rfl, rfl⟩ := Prod.mk.inj (Option.some.inj hp)
            obtain ⟨q1, hq1, hq2⟩ := mj_map_spec htl1
            have hty := mj_tys htl (ci := q1.2) (ty := .long) (by rw [hq1, ← hq2])
            have hs8 := hcat hro
            have hnf : nativeFrameWords "java/lang/System" "arraycopy" 5 + 11 ≤ 32 := by decide
            refine va_copyl hx hb hml2 hown (hts _ (hw _ (by simp [mj_pw]))) (hts _ (hw _ (by simp [mj_pw]))) (hts _ (hw _ (by simp [mj_pw]))) (hts _ (hw _ (by simp [mj_pw]))) hK (mj_I_drop hI) hI.2.2.2.2.1 hI.2.2.2.2.2.1 _ _ 1 1 (mj_I_dget hI hcb he0) (mj_I_dget hI hca he1) hty hty rfl h1 h2 h3 h4 h5 (fun _ _ => rfl) hRf (Nat.le_trans (Nat.add_le_add hs8 hnf) hRl) hdg (fun H1 locs1 hP1 hD1 hS1 => kk (List.length_set ..) (mj_sl_set he1 rfl) H1 locs1 (mj_I_put hI hca (e' := .inl (1, n1, .inr (.inl _))) trivial hP1 hD1 hS1))
          · cases hp
        · cases hp
      · rename_i cb S0
        split at hp
        · rename_i hc
          obtain ⟨hro, hlt⟩ := hc
          obtain ⟨rfl, rfl⟩ := Prod.mk.inj (Option.some.inj hp)
          have hco : mj_w7 ∈ Tg ++ Ns := hw _ (by simp [mj_pw])
          have hin7 : mj_w7 ∈ Tg := (List.mem_append.mp hco).elim id (fun z => absurd (hNx _ z) (by simp [mj_xw, mj_w7]))
          obtain ⟨g5, g200, h7b⟩ := h7 hin7
          have hMet := h7b cb ad h H.size hlt
          have hMet2 : Met l mj_n7 (mj_w7 :: Tg) mj_r7 (mj_Pc Ns Zs xt xa D cl tys c0 ad [.int cb] h H.size) (mj_Qc D cl tys c0 ad h H.size (some (.int (mj_sob cb))) h) (h.length - h.length) (mj_sl h - mj_sl h) (mj_A tys ad h c0 H.size) := by
            rw [Nat.sub_self, Nat.sub_self]; exact hMet
          have fix : CallFix p m c cc nL s args (Tg ++ Ns) own := ⟨hx, hb, hml, hown, hts⟩
          have hpre : PreS s H (mj_Pc Ns Zs xt xa D cl tys c0 ad [.int cb] h H.size) [.int cb] := ⟨mj_blind _ _ _ _ _ _ _ _ _ _ _ _, fun U hU hW => ⟨rfl, by rw [hU], va_K.moved hW.alike hK, fun w hw => ⟨hNx w hw, mj_xw_warm (hNx w hw) hW (mj_xw_of (hNx w hw) (hts w (List.mem_append_right _ hw)))⟩, by rw [hU]; exact hZ.call (fun a h1 h2 => hI.2.2.2.2.2.1.2.1 a h1 h2) hW (mj_A_in hI hAq), fun k ty n f hk => ⟨(hX k ty n f hk).1, by rw [hU]; exact (((hX k ty n f hk).2.kept (fun a h1 h2 => hI.2.2.2.2.2.1.2.1 a h1 h2)).moved hW.alike).narrow (mj_A_in hI hAq)⟩, by rw [hU]; exact mj_I_callee hI hAq⟩⟩
          have hgi : GoodIn (Tg ++ Ns) (mj_w7 :: Tg) := fun w hw => (List.mem_cons.mp hw).elim (fun z => by rw [z]; exact ⟨hco, hg _ hin7⟩) (fun z => ⟨List.mem_append_left _ z, hg _ z⟩)
          have cw := callB_of (R := R) (rm := mj_r7) (ws := mj_w7 :: Tg) (index := x) (own := own) (y := mj_n7) (mc := h.length - h.length) (ms := mj_sl h - mj_sl h) 1 hts hgi (bytes := prog_10_method_13_code) (maxL := 1) (ret := some .int) rfl (Nat.sub_self _).symm (Nat.sub_self _).symm (hts _ (hw _ (by simp [mj_pw]))) (hts _ (hw _ (by simp [mj_pw]))) ⟨by decide, by decide, by decide +kernel⟩ ⟨Nat.le_trans (Nat.add_le_add_right g5 1) (by rw [Nat.add_comm]; exact hRf9), Nat.le_trans (Nat.add_le_add (show 8 + (1 + 11) ≤ 40 by decide) g200) hRl9⟩
          have hstat := hts _ (hw (Cond.static mj_n7) (by simp [mj_pw]))
          exact mj_Run_W hI hAq (mj_sok_cons.mp hok).2 (va_runS fix hMet2 ⟨cw, hstat⟩ hpre rfl rfl hls rfl (lv_room (hcat hro)) hdg ⟨hcc1, hss1⟩) kb
        · cases hp
      · cases hp
    · cases hp
  · rename_i x
    split at hp
    · rename_i n ci hm
      have hw := (hM _ _ _ _ _ hm).2.1 rfl
      split at hp
      · rename_i a S0
        split at hp
        · rename_i t0 n0 f he
          split at hp
          · rename_i hc
            obtain ⟨hro, hca, rfl, htl1⟩ := hc
            obtain ⟨rfl, rfl⟩ := Prod.mk.inj (Option.some.inj hp)
            obtain ⟨q1, hq1, hq2⟩ := mj_map_spec htl1
            have hty := mj_tys htl (ci := q1.2) (ty := .long) (by rw [hq1, ← hq2])
            have hs8 := hcat hro
            have hsl : mj_sl (h ++ [.inl (1, n0, .inr (.inl (va_cpy f (fun _ => 0) 0 0 n0)))]) - mj_sl h = n0 := by rw [mj_sl_push]; exact Nat.add_sub_cancel_left ..
            have hln : (h ++ [(.inl (1, n0, .inr (.inl (va_cpy f (fun _ => 0) 0 0 n0))) : mj_E)]).length - h.length = 1 := by rw [List.length_append]; exact Nat.add_sub_cancel_left ..
            rw [hsl] at hss1 kb
            rw [hln] at hcc1 kb
            have hnm := va_nm_long (hK.2 1 _ hty).2
            refine va_clone hx hb hml2 hown (hts _ (hw _ (by simp [mj_pw]))) (hts _ (hw _ (by simp [mj_pw]))) (hts _ (hw _ (by simp [mj_pw]))) (hts _ (hw _ (by simp [mj_pw]))) (hts _ (hw _ (by simp [mj_pw]))) (va_Nw.of rfl (hts _ (hw _ (by simp [mj_pw])))) hK (mj_I_drop hI) hI.2.2.2.2.1 hI.2.2.2.2.2.1 hAq (a - c0) 1 (mj_I_dget hI hca he) hty hnm (va_fit (fun _ _ => rfl)) hRf (Nat.le_trans (Nat.add_le_add_right hs8 14) (by omega)) hcc1 hss1 hdg (fun q H1 hK1 hP1 hD1 hS1 => ?_)
            have hce : ∀ (cA : ClassId), vp_cell cA (n0, .inr (.inl f)) = vp_cell cA (n0, .inr (.inl (va_cpy f (fun _ => 0) 0 0 n0))) := fun cA => by
              show ({ cls := cA, slots := Array.ofFn (n := n0) fun j => Value.long (f j.val), vm := .none } : Cell) = { cls := cA, slots := Array.ofFn (n := n0) fun j => Value.long (va_cpy f (fun _ => 0) 0 0 n0 j.val), vm := .none }
              congr 1
              congr 1
              funext j
              have hj := j.isLt
              unfold va_cpy
              simp [hj]
            have hP2 : va_P D cl ((mj_W tys ad h).drop c0 ++ [(q, mj_e tys ad (.inl (1, n0, .inr (.inl (va_cpy f (fun _ => 0) 0 0 n0)))))]) H1 := by
              intro k y hy
              by_cases hk : k < ((mj_W tys ad h).drop c0).length
              · rw [List.getElem?_append_left hk] at hy
                exact hP1 k y (by rw [List.getElem?_append_left hk]; exact hy)
              · rw [List.getElem?_append_right (Nat.le_of_not_lt hk)] at hy
                have hz : k - ((mj_W tys ad h).drop c0).length < 1 := (List.getElem?_eq_some_iff.mp hy).1
                have hz0 : k - ((mj_W tys ad h).drop c0).length = 0 := by omega
                rw [hz0] at hy
                cases hy
                have h9 := hP1 k _ (by rw [List.getElem?_append_right (Nat.le_of_not_lt hk), hz0]; rfl)
                show H1[q]? = some (vp_cell _ (n0, .inr (.inl (va_cpy f (fun _ => 0) 0 0 n0))))
                rw [← hce]
                exact h9
            have hD2 : va_D A ((mj_W tys ad h).drop c0 ++ [(q, mj_e tys ad (.inl (1, n0, .inr (.inl (va_cpy f (fun _ => 0) 0 0 n0)))))]) := by
              have h8 := hD1.set (p := ((mj_W tys ad h).drop c0).length) (a := q) (e := mj_e tys ad (.inl (1, n0, .inr (.inl (va_cpy f (fun _ => 0) 0 0 n0))))) (by rw [List.getElem?_append_right (Nat.le_refl _), Nat.sub_self]; rfl)
              rw [List.set_append_right _ _ (Nat.le_refl _), Nat.sub_self] at h8
              exact h8
            have k1 := kb [q] H1 _ (mj_I_new hI (e' := .inl (1, n0, .inr (.inl (va_cpy f (fun _ => 0) 0 0 n0)))) trivial hP2 hD2 hS1)
            have e3 : mj_vs (ad ++ [q]) (.ref h.length :: S0) = .ref q :: mj_vs ad S0 := by
              show mj_v (ad ++ [q]) (.ref h.length) :: mj_vs (ad ++ [q]) S0 = _
              rw [mj_vs_app (by rw [hI.1]; exact (mj_sok_cons.mp hok).2)]
              congr 1
              show Value.ref ((ad ++ [q]).getD h.length 0) = _
              rw [List.getD_eq_getElem?_getD, List.getElem?_append_right (by rw [hI.1]; exact Nat.le_refl _), hI.1, Nat.sub_self]
              rfl
            rw [e3] at k1
            exact k1
          · cases hp
        · cases hp
      · cases hp
    · cases hp
  · rename_i x
    split at hp
    · rename_i n ci hm
      have hw := (hM _ _ _ _ _ hm).2.1 rfl
      split at hp
      · rename_i a S0
        split at hp
        · rename_i t0 n0 f he
          split at hp
          · rename_i hc
            obtain ⟨hca, rfl, htl1⟩ := hc
            obtain ⟨rfl, rfl⟩ := Prod.mk.inj (Option.some.inj hp)
            obtain ⟨q1, hq1, hq2⟩ := mj_map_spec htl1
            have hty := mj_tys htl (ci := q1.2) (ty := .long) (by rw [hq1, ← hq2])
            exact va_castA hx hb hown (hts _ (hw _ (by simp [mj_pw]))) (mj_I_drop hI) (a - c0) (mj_I_dget hI hca he) (va_nm_long (hK.2 1 _ hty).2) hdg (kk rfl rfl _ _ hI)
          · cases hp
        · cases hp
      · cases hp
    · cases hp
  · cases hp
end MJ11
