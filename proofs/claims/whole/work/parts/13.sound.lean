/-! mj: every call of the small machine has its contract -/
theorem mj_sl_len (ad : List Nat) (As : List Value) : (lg_sl (mj_vs ad As)).length = (lg_sl As).length := by
  induction As with
  | nil => rfl
  | cons v vs ih =>
    unfold lg_sl mj_vs at ih ⊢
    rw [List.map_cons, List.flatMap_cons, List.flatMap_cons, List.length_append, List.length_append, ih, mj_v_cat]
    congr 1
    split <;> rfl
/-- what the statics of a class's table rest on -/
def mj_okSt (Ts : List Cond) (Zs : mj_Z) (c0 : Nat) (xa : Nat → Nat) (own : String) (T : mj_T) : Prop := ∀ x v, T.2.2.2.2.2 x = some v → ∃ k, v = .ref k ∧ k < c0 ∧ ∃ z ∈ Zs.1, z.2.2.2 = .ref (xa k) ∧ (Cond.fieldLink own x z.1 z.2.1 z.2.2.1 ∈ Ts ∨ ∃ host, Cond.fieldLinkNest own x z.1 z.2.1 z.2.2.1 host ∈ Ts)
theorem mj_okS_of {p : Program} {l : Launch} {e : Env} {R : Room} {s : State} {m : MethodId} {args : Array Value} {below : List Frame} {meth : Method} {c : Code} {Q : State → Prop} {cc : ByteArray} {A : Nat → Prop} {c0 : Nat} {xa : Nat → Nat} {T : mj_T} {Ts : List Cond} {Zs : mj_Z} {own : String} (hx : p.tables.exec = Jvm.exec) (hb : c.code = cc) (hts : ∀ w ∈ Ts, w.before args s = true) (hown : s.vm.findClass own = some m.cls) (hZ : mj_Zok Zs A s s.heap) (h : mj_okSt Ts Zs c0 xa own T) : mj_okS p l e R s m args below meth c Q cc A c0 xa T := by
  intro x v hv ad H locs cells slots pc ls rest hxa hS hdg kk
  obtain ⟨k, rfl, hk, z, hz, hzv, hl⟩ := h x v hv
  have e1 : mj_v ad (.ref k) = z.2.2.2 := by
    rw [hzv, ← hxa k hk]
    rfl
  rw [e1] at kk
  rcases hl with hl | ⟨host, hl⟩
  · exact va_gets hx hb (hZ.1 z hz) hS hown (hts _ hl) (fun _ q => q) hdg kk
  · exact va_getsN hx hb (hZ.1 z hz) hS hown (hts _ hl) (fun _ q => q) hdg kk
/-- what a program rests on: mm its methods, TT and nm its classes' tables and names -/
def mj_okP (Tg Ns : List Cond) (Zs : mj_Z) (cl : List vw_C) (tl : List (FieldType × Nat)) (c0 : Nat) (xa : Nat → Nat) (mm : Nat → Option mj_M) (TT : Nat → mj_T × mj_C) (nm : Nat → String) : Prop :=
  (mj_good Tg ∧ ∀ w ∈ Ns, mj_xw w = true) ∧ (∀ o, mj_okF (Tg ++ Ns) cl (nm o) (TT o).1 ∧ mj_okC (Tg ++ Ns) (nm o) (TT o).1 ∧ mj_okN (Tg ++ Ns) cl (nm o) (TT o).1 ∧ mj_okA (Tg ++ Ns) cl tl (nm o) (TT o).1 ∧ mj_okS0 c0 (TT o).1 ∧ mj_okSt (Tg ++ Ns) Zs c0 xa (nm o) (TT o).1 ∧ mj_okM (Tg ++ Ns) cl (nm o) (TT o).2 mm) ∧
  ∀ k M, mm k = some M → plainName M.1.1.cls = true ∧ M.1.1.cls = nm M.2.1 ∧ (M.2.2.1 = true → M.1.1.name = "<init>") ∧ ∀ pc i len, M.2.2.2 pc = some (i, len) → decode M.1.2.1 pc = .ok (i, len)
theorem mj_okP_keeps {Tg Ns : List Cond} {Zs : mj_Z} {cl : List vw_C} {tl : List (FieldType × Nat)} {c0 : Nat} {xa : Nat → Nat} {mm : Nat → Option mj_M} {TT : Nat → mj_T × mj_C} {nm : Nat → String} {xt : mj_X} (hP : mj_okP Tg Ns Zs cl tl c0 xa mm TT nm) (d N : Nat) : mj_keeps (mj_call mm TT xt tl c0 d N) c0 := by
  refine mj_call_ok (fun o => (hP.2.1 o).2.2.2.2.1) (fun o x ci fs h1 => ?_) d N
  obtain ⟨_, _, _, _, _, _, _, _, _, _, _, _, q⟩ := (hP.2.1 o).2.2.1 x ci fs h1
  exact q
set_option maxHeartbeats 8000000 in
theorem mj_call_sound_step {l : Launch} {Tg Ns : List Cond} {Zs : mj_Z} {D : va_G} {cl : List vw_C} {tys : List (ClassId × FieldType)} {tl : List (FieldType × Nat)} {c0 : Nat} {xa : Nat → Nat} {mm : Nat → Option mj_M} {TT : Nat → mj_T × mj_C} {nm : Nat → String} {xt : mj_X} {N : Nat} (hP : mj_okP Tg Ns Zs cl tl c0 xa mm TT nm) (htl : tys.map (fun q => q.2) = tl.map (fun q => q.1)) (h7 : mj_S7 l Ns Zs xt xa D cl tys c0 Tg) (d : Nat)
    (hs : ∀ k As h r h', mj_call mm TT xt tl c0 d N k As h = some (r, h') → ∃ d1, mj_sound l Ns Zs xt D cl tys c0 xa Tg mm (mj_call mm TT xt tl c0 d N) d1 ∧ d1 + 1 ≤ d ∧ (d1 + 1) * 40 ≤ d * 40) : mj_sound l Ns Zs xt D cl tys c0 xa Tg mm (mj_call mm TT xt tl c0 (d + 1) N) d := by
  intro k M As h r h' hM hr hA ad sz hxa
  obtain ⟨hpl, hcls, hini, hcode⟩ := hP.2.2 k M hM
  obtain ⟨hF, hC, hN, hAr, hS0, hSt, hMt⟩ := hP.2.1 M.2.1
  unfold mj_call at hr
  rw [hM] at hr
  dsimp only at hr
  split at hr
  · rename_i hfit
    refine Met.ofW (cc := M.1.2.1) (maxL := M.1.2.2.1) (ret := M.1.2.2.2) hpl rfl ?_
    intro p e s m args below meth c s₁ B hml hv
    obtain ⟨rfl, hsz, hK, hNk, hZ, hX, hI⟩ := hv
    have hx := B.exec
    have hb := B.bytes
    have hrt := B.returns
    have hts0 := atoms_spec (ws := mj_ws Tg M) B.pre
    have hts : ∀ w ∈ Tg ++ Ns, w.before (mj_vs ad As).toArray s = true := fun w hw => (List.mem_append.mp hw).elim (fun hw => hts0 w (List.mem_cons_of_mem _ hw)) (fun hw => mj_xw_use (hNk w hw).1 (hNk w hw).2)
    have hown : s.vm.findClass (nm M.2.1) = some m.cls := by rw [← hcls]; exact findClass_of_methodNamed B.named
    have hlocks := B.notSynchronized
    have hin : meth.name = M.1.1.name := (name_of_methodNamed B.named B.method).1
    subst hsz
    have hAq : ∀ q : Nat, s.heap.size ≤ q → mj_A tys ad h c0 s.heap.size q := fun q z => Or.inr z
    have hl := lv_entry (mj_vs ad As) (n := M.1.2.2.1) (by rw [mj_sl_len]; exact hfit)
    rw [mj_args_ls] at hl
    rw [lg_entry_eq]
    have hCtx : mj_Ctx p s m (mj_vs ad As).toArray meth c M.1.2.1 M.1.2.2.1 D cl tys tl (mj_A tys ad h c0 s.heap.size) c0 (Tg ++ Ns) (nm M.2.1) (TT M.2.1).1 M.2.2.1 := ⟨hx, hb, hml, hts, hown, hK, htl, hAq, fun z => hin.trans (hini z), hF, hC, hN, hAr, hS0⟩
    have hdp : 0 < d → 1 + Zs.2.2.2.1 ≤ (mj_rm Zs d h h').frames ∧ 40 + Zs.2.2.2.2 ≤ (mj_rm Zs d h h').locals := fun z => ⟨Nat.add_le_add_right z _, Nat.add_le_add_right (show 40 ≤ d * 40 by omega) _⟩
    have hnil : mj_sok h.length [] := fun v hv => by cases hv
    have hargs : mj_lok h.length (lv_args 0 As) := fun q hq => hA _ (mj_args_mem _ _ _ hq)
    refine mj_run_W (R := mj_rm Zs d h h') (dep := d) hCtx (mj_okS_of hx hb hts hown hZ hSt) hMt hP.1.1 hP.1.2 hZ hX (mj_okP_keeps hP d N) h7 (fun k As h0 r0 h1 q => by obtain ⟨d1, g1, g2, g3⟩ := hs k As h0 r0 h1 q; exact ⟨d1, g1, (show d1 + Zs.2.2.2.1 + 1 ≤ d + Zs.2.2.2.1 by omega), Nat.add_le_add_right g3 _⟩) hdp hcode _ _ _ _ _ _ _ hr ad s.heap [] 0 0 (h'.length - h.length) (mj_sl h' - mj_sl h) _ hl hargs hnil hI hxa (Nat.zero_add _) (Nat.zero_add _) (Nat.le_refl _) (Nat.le_refl _) ?_
    intro pc ls b H' locs' i S hdg hret hI'
    have hf : ∀ q ∈ locs', mj_A tys ad h c0 s.heap.size q.base := hI'.2.2.2.2.2.1.2.2
    have hq : ∀ t : State, t.heap = H' → s.WarmedH t.vm → mj_Qc D cl tys c0 ad h s.heap.size r h' (mj_vs ad As).toArray s (.returned (r.map (mj_v (ad ++ b)))) t := fun t ht hW => ⟨b, rfl, by
      rw [ht]
      exact ⟨hI'.1, hI'.2.1, hI'.2.2.1, hI'.2.2.2.1, hI'.2.2.2.2.1, ⟨hI'.2.2.2.2.2.1.1, hI'.2.2.2.2.2.1.2.1, fun _ z => by cases z⟩, trivial⟩⟩
    unfold mj_ret at hret
    split at hret
    · split at hret
      · rename_i hr0
        cases hret
        exact W.vret hx hb (hrt.trans hr0) hq hf hdg hlocks
      · cases hret
    · split at hret
      · rename_i x hr0
        cases hret
        exact W.iret hx hb (hrt.trans hr0) hq hf hdg hlocks
      · rename_i x hr0
        split at hret
        · rename_i h01
          cases hret
          refine W.zret hx hb (hrt.trans hr0) ?_ hq hf hdg hlocks
          rcases h01 with rfl | rfl
          · exact (show narrow .boolean (.int 0) = .int 0 by decide)
          · exact (show narrow .boolean (.int 1) = .int 1 by decide)
        · cases hret
      · cases hret
    · split at hret
      · rename_i x hr0
        cases hret
        exact W.lret hx hb (hrt.trans hr0) hq hf hdg hlocks
      · cases hret
    · split at hret
      · rename_i C a hr0
        cases hret
        exact W.aret hx hb (hrt.trans hr0) (Or.inl ⟨_, rfl⟩) (Or.inr ⟨_, rfl⟩) hq hf hdg hlocks
      · rename_i C hr0
        cases hret
        exact W.aret hx hb (hrt.trans hr0) (Or.inl ⟨_, rfl⟩) (Or.inl rfl) hq hf hdg hlocks
      · rename_i C a hr0
        cases hret
        exact W.aret hx hb (hrt.trans hr0) (Or.inr ⟨_, rfl⟩) (Or.inr ⟨_, rfl⟩) hq hf hdg hlocks
      · rename_i C hr0
        cases hret
        exact W.aret hx hb (hrt.trans hr0) (Or.inr ⟨_, rfl⟩) (Or.inl rfl) hq hf hdg hlocks
      · cases hret
    · cases hret
  · cases hr
set_option maxHeartbeats 8000000 in
theorem mj_call_sound {l : Launch} {Tg Ns : List Cond} {Zs : mj_Z} {D : va_G} {cl : List vw_C} {tys : List (ClassId × FieldType)} {tl : List (FieldType × Nat)} {c0 : Nat} {xa : Nat → Nat} {mm : Nat → Option mj_M} {TT : Nat → mj_T × mj_C} {nm : Nat → String} {xt : mj_X} (hP : mj_okP Tg Ns Zs cl tl c0 xa mm TT nm) (htl : tys.map (fun q => q.2) = tl.map (fun q => q.1)) (h7 : mj_S7 l Ns Zs xt xa D cl tys c0 Tg) :
    ∀ d N, mj_sound l Ns Zs xt D cl tys c0 xa Tg mm (mj_call mm TT xt tl c0 (d + 1) N) d := by
  intro d
  induction d with
  | zero =>
    intro N
    exact mj_call_sound_step (N := N) hP htl h7 0 (fun k As h r h' q => by cases q)
  | succ d ih =>
    intro N
    exact mj_call_sound_step (N := N) hP htl h7 (d + 1) (fun k As h r h' q => ⟨d, ih N, Nat.le_refl _, Nat.le_refl _⟩)
