/-! mj: the heap's steps are the JVM's -/
theorem mj_sl_set {h : mj_H} {k : Nat} {e e' : mj_E} (he : h[k]? = some e) (hs : mj_sl1 e' = mj_sl1 e) : mj_sl (h.set k e') = mj_sl h := by
  unfold mj_sl
  congr 1
  apply List.ext_getElem?
  intro j
  rw [List.getElem?_map, List.getElem?_map]
  by_cases hj : k = j
  · subst hj
    rw [List.getElem?_set_self (List.getElem?_eq_some_iff.mp he).1, he]
    exact congrArg some hs
  · rw [List.getElem?_set_ne hj]
theorem mj_sl_push (h : mj_H) (e : mj_E) : mj_sl (h ++ [e]) = mj_sl h + mj_sl1 e := by
  unfold mj_sl
  rw [List.map_append, List.sum_append]
  simp
theorem mj_tys {tys : List (ClassId × FieldType)} {tl : List (FieldType × Nat)} (htl : tys.map (fun q => q.2) = tl.map (fun q => q.1)) {t ci : Nat} {ty : FieldType} (h : tl[t]? = some (ty, ci)) : tys[t]? = some ((tys.getD t (0, .int)).1, ty) := by
  have h1 : (tl.map (fun q => q.1))[t]? = some ty := by rw [List.getElem?_map, h]; rfl
  rw [← htl, List.getElem?_map] at h1
  cases h2 : tys[t]? with
  | none => rw [h2] at h1; cases h1
  | some q =>
    rw [h2] at h1
    rw [List.getD_eq_getElem?_getD, h2]
    obtain ⟨a, b⟩ := q
    cases h1
    rfl
theorem mj_vs_get {ad : List Nat} {fs : List Value} {k : Nat} {v : Value} (h : fs[k]? = some v) : (mj_vs ad fs)[k]? = some (mj_v ad v) := by
  unfold mj_vs
  rw [List.getElem?_map, h]
  rfl
section MJ6
variable {p : Program} {l : Launch} {e : Env} {R : Room} {s : State} {m : MethodId} {args : Array Value} {below : List Frame} {meth : Method} {c : Code} {H : Heap} {locs : List Loc} {cells slots : Nat} {Q : State → Prop}
variable {cc : ByteArray} {pc : Nat} {ls : Array Slot} {ad : List Nat}
variable {D : va_G} {cl : List vw_C} {tys : List (ClassId × FieldType)} {A : Nat → Prop} {c0 : Nat} {h h' : mj_H} {S S' : List Value} {Ts : List Cond} {own : String} {T : mj_T} {tl : List (FieldType × Nat)} {ini : Bool} {xt : mj_X} {xa : Nat → Nat}
set_option maxHeartbeats 4000000 in
theorem mj_gf_W (hx : p.tables.exec = Jvm.exec) (hb : c.code = cc) (hts : ∀ w ∈ Ts, w.before args s = true) (hown : s.vm.findClass own = some m.cls) (hK : va_K D cl tys s) (hF : mj_okF Ts cl own T) {x : Nat} (hs : mj_gf T c0 x S h = some (S', h')) (hdg : decode cc pc = .ok (.getfield x, 3)) (hI : mj_I D cl tys A c0 s.heap ad h H locs)
    (kk : h' = h → W p l e R s m args below meth c H locs cells slots Q (F0 m (pc + 3) ls (mj_vs ad S'))) : W p l e R s m args below meth c H locs cells slots Q (F0 m pc ls (mj_vs ad S)) := by
  unfold mj_gf at hs
  split at hs
  · rename_i a S0
    split at hs
    · rename_i ci k ty fin hT
      split at hs
      · rename_i c1 fs he
        split at hs
        · rename_i hc
          obtain ⟨rfl, hca⟩ := hc
          obtain ⟨v, hv, h2⟩ := mj_map_spec hs
          obtain ⟨rfl, rfl⟩ := Prod.mk.inj h2
          obtain ⟨C, tb, N, ty0, hc, hk, hin, hty, hnm, -, -, -, -, hl⟩ := hF _ _ _ _ _ hT
          have hP := mj_I_at hI hca he
          rcases hl with hl | ⟨-, host, hl⟩
          · exact va_get hx hb hts hin hown hK hP 0 rfl hc k hk (hts _ hl) (fun _ z => z) (mj_vs_get hv) hdg (kk rfl)
          · exact va_getN hx hb hts hin hown hK hP 0 rfl hc k hk (hts _ hl) (fun _ z => z) (mj_vs_get hv) hdg (kk rfl)
        · cases hs
      · cases hs
    · cases hs
  · cases hs
set_option maxHeartbeats 4000000 in
theorem mj_pf_W (hx : p.tables.exec = Jvm.exec) (hb : c.code = cc) (hts : ∀ w ∈ Ts, w.before args s = true) (hown : s.vm.findClass own = some m.cls) (hK : va_K D cl tys s) (hF : mj_okF Ts cl own T) (hini : ini = true → meth.name = "<init>") {x : Nat} (hs : mj_pf T c0 ini x S h = some (S', h')) (hdg : decode cc pc = .ok (.putfield x, 3)) (hI : mj_I D cl tys A c0 s.heap ad h H locs) (hok : mj_sok h.length S)
    (kk : ∀ H' locs', h'.length = h.length → mj_sl h' = mj_sl h → mj_I D cl tys A c0 s.heap ad h' H' locs' → W p l e R s m args below meth c H' locs' cells slots Q (F0 m (pc + 3) ls (mj_vs ad S'))) : W p l e R s m args below meth c H locs cells slots Q (F0 m pc ls (mj_vs ad S)) := by
  unfold mj_pf at hs
  split at hs
  · rename_i v a S0
    split at hs
    · rename_i ci k ty fin hT
      split at hs
      · rename_i c1 fs he
        split at hs
        · rename_i hc
          obtain ⟨rfl, hkl, hca, hfit, hf2, hfi⟩ := hc
          obtain ⟨rfl, rfl⟩ := Prod.mk.inj (Option.some.inj hs)
          obtain ⟨C, tb, N, ty0, hc, hk, hin, hty, hnm, ht, hle, hfin0, hfin1, hl⟩ := hF _ _ _ _ _ hT
          have hP := mj_I_drop hI
          have hD := hI.2.2.2.2.1
          have hS := hI.2.2.2.2.2.1
          have hg := mj_I_dget hI hca he
          obtain ⟨f1, f2⟩ := mj_fit_spec ad hfit
          have hd : parseFieldDescriptor (tb k).2.2.1 = some ty := by rw [hty k hk, ht]
          have hlen : k < (mj_vs ad fs).length := by unfold mj_vs; rw [List.length_map]; exact hkl
          have hvs : (mj_vs ad fs).set k (mj_v ad v) = mj_vs ad (fs.set k v) := by unfold mj_vs; rw [List.map_set]
          have hkk : ∀ (H1 : Heap) (locs1 : List Loc), va_P D cl (((mj_W tys ad h).drop c0).set (a - c0) (ad.getD a 0, .inr (c1, (mj_vs ad fs).set k (mj_v ad v)))) H1 → va_D A (((mj_W tys ad h).drop c0).set (a - c0) (ad.getD a 0, .inr (c1, (mj_vs ad fs).set k (mj_v ad v)))) → va_S A s.heap H1 locs1 → W p l e R s m args below meth c H1 locs1 cells slots Q (F0 m (pc + 3) ls (mj_vs ad S0)) := by
            intro H1 locs1 hP1 hD1 hS1
            rw [hvs] at hP1 hD1
            refine kk H1 locs1 (List.length_set ..) (mj_sl_set he (by show (fs.set k v).length = fs.length; rw [List.length_set])) (mj_I_put hI hca (e' := .inr (c1, fs.set k v)) ?_ hP1 hD1 hS1)
            intro z hz
            rcases List.mem_or_eq_of_mem_set hz with hz | rfl
            · exact hI.2.2.1 _ (List.mem_of_getElem? he) z hz
            · exact (mj_sok_cons.mp hok).1
          rcases (show fin = 1 ∨ fin = 0 by omega) with hfv | hfv
          · obtain ⟨hfin, hdecl⟩ := hfin1 hfv
            rcases hl with hl | ⟨hl, -⟩
            · exact va_putF hx hb hts hin ty0 hty hnm hown hK hP hD hS (a - c0) hg hc k hk (hts _ hl) (fun _ z => z) hfin (hini (hfi hfv)) hdecl hd f1 f2 hlen hdg hkk
            · omega
          · have hfin := hfin0 hfv
            rcases hl with hl | ⟨-, host, hl⟩
            · exact va_put hx hb hts hin ty0 hty hnm hown hK hP hD hS (a - c0) hg hc k hk (hts _ hl) (fun _ z => z) hfin hd f1 f2 hlen hdg hkk
            · exact va_putN hx hb hts hin ty0 hty hnm hown hK hP hD hS (a - c0) hg hc k hk (hts _ hl) (fun _ z => z) hfin hd f1 f2 hlen hdg hkk
        · cases hs
      · cases hs
    · cases hs
  · cases hs
theorem mj_rf (ad : List Nat) (r : Option Nat) : mj_v ad (va_rf r) = va_rf (r.map fun k => ad.getD k 0) := by cases r <;> rfl
set_option maxHeartbeats 4000000 in
theorem mj_ald_W (hx : p.tables.exec = Jvm.exec) (hb : c.code = cc) (hK : va_K D cl tys s) (htl : tys.map (fun q => q.2) = tl.map (fun q => q.1)) (hX : mj_Xok xt c0 xa A s s.heap) (hxa : ∀ k, k < c0 → ad.getD k 0 = xa k) {i : Instr} (hs : mj_ald xt tl c0 i S h = some (S', h')) (hdg : decode cc pc = .ok (i, 1)) (hI : mj_I D cl tys A c0 s.heap ad h H locs)
    (kk : h' = h → W p l e R s m args below meth c H locs cells slots Q (F0 m (pc + 1) ls (mj_vs ad S'))) : W p l e R s m args below meth c H locs cells slots Q (F0 m pc ls (mj_vs ad S)) := by
  unfold mj_ald at hs
  split at hs
  · rename_i j a S0
    split at hs
    · rename_i hac
      unfold mj_alx at hs
      split at hs
      · rename_i ty n f hxt
        have hT := (hX _ _ _ _ hxt).2
        rw [← hxa a hac] at hT
        split at hs
        · cases hs
        · rename_i hj
          split at hs
          · rename_i x hf
            obtain ⟨rfl, rfl⟩ := Prod.mk.inj (Option.some.inj hs)
            exact va_ti hx hb hT hI.2.2.2.2.2.1 hj hf hdg (kk rfl)
          · rename_i x hf
            obtain ⟨rfl, rfl⟩ := Prod.mk.inj (Option.some.inj hs)
            exact va_tl hx hb hT hI.2.2.2.2.2.1 hj hf hdg (kk rfl)
          · rename_i x hf
            obtain ⟨rfl, rfl⟩ := Prod.mk.inj (Option.some.inj hs)
            exact va_tb hx hb hT hI.2.2.2.2.2.1 hj hf hdg (kk rfl)
          · cases hs
      · cases hs
    · rename_i hac
      have hca : c0 ≤ a := Nat.le_of_not_lt hac
      split at hs
      · rename_i t n f he
        have hP := mj_I_at hI hca he
        split at hs
        · cases hs
        · rename_i hj
          split at hs
          · rename_i ci ht
            obtain ⟨rfl, rfl⟩ := Prod.mk.inj (Option.some.inj hs)
            exact va_iald hx hb hK hP 0 t rfl (mj_tys htl ht) hj hdg (kk rfl)
          · rename_i ci ht
            obtain ⟨rfl, rfl⟩ := Prod.mk.inj (Option.some.inj hs)
            exact va_bald hx hb hK hP 0 t rfl (mj_tys htl ht) hj hdg (kk rfl)
          · rename_i ci ht
            obtain ⟨rfl, rfl⟩ := Prod.mk.inj (Option.some.inj hs)
            exact va_zald hx hb hK hP 0 t rfl (mj_tys htl ht) hj hdg (kk rfl)
          · cases hs
      · rename_i t n f he
        have hP := mj_I_at hI hca he
        split at hs
        · cases hs
        · rename_i hj
          split at hs
          · rename_i ci ht
            obtain ⟨rfl, rfl⟩ := Prod.mk.inj (Option.some.inj hs)
            exact va_lald hx hb hK hP 0 t rfl (mj_tys htl ht) hj hdg (kk rfl)
          · cases hs
      · rename_i t n f he
        have hP := mj_I_at hI hca he
        split at hs
        · cases hs
        · rename_i hj
          split at hs
          · rename_i C ci ht
            obtain ⟨rfl, rfl⟩ := Prod.mk.inj (Option.some.inj hs)
            refine va_aldq hx hb hK hP 0 t rfl (mj_tys htl ht) hj hdg ?_
            have k1 := kk rfl
            show W p l e R s m args below meth c H locs cells slots Q (F0 m (pc + 1) ls (va_rf ((f j.toNatClampNeg).map fun k => ad.getD k 0) :: mj_vs ad S0))
            rw [← mj_rf]
            exact k1
          · cases hs
      · cases hs
  · cases hs
end MJ6
