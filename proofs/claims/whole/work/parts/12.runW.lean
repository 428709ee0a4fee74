/-! mj: a run of the small machine is a run of the JVM's method; so every call has its contract -/
section MJ12
variable {p : Program} {l : Launch} {e : Env} {R : Room} {s : State} {m : MethodId} {args : Array Value} {below : List Frame} {meth : Method} {c : Code} {Q : State → Prop}
variable {cc : ByteArray} {nL dep : Nat}
variable {D : va_G} {cl : List vw_C} {tys : List (ClassId × FieldType)} {A : Nat → Prop} {c0 : Nat} {Ts : List Cond} {own : String} {T : mj_T} {tl : List (FieldType × Nat)} {ini : Bool} {xa : Nat → Nat} {mt : mj_C} {mm : Nat → Option mj_M} {call : Nat → List Value → mj_H → mj_R} {ret : Option FieldType} {code : Nat → Option (Instr × Nat)} {Zs : mj_Z} {xt : mj_X} {Tg Ns : List Cond}
/-- what comes at a return -/
def mj_K (p : Program) (l : Launch) (e : Env) (R : Room) (s : State) (m : MethodId) (args : Array Value) (below : List Frame) (meth : Method) (c : Code) (Q : State → Prop) (cc : ByteArray) (D : va_G) (cl : List vw_C) (tys : List (ClassId × FieldType)) (A : Nat → Prop) (c0 : Nat) (ret : Option FieldType) (ad : List Nat) (r : Option Value) (h' : mj_H) (cE sE : Nat) : Prop :=
  ∀ (pc : Nat) (ls : Array Slot) (b : List Nat) (H' : Heap) (locs' : List Loc) (i : Instr) (S : List Value), decode cc pc = .ok (i, 1) → mj_ret ret i S = some r → mj_I D cl tys A c0 s.heap (ad ++ b) h' H' locs' → W p l e R s m args below meth c H' locs' cE sE Q (F0 m pc ls (mj_vs (ad ++ b) S))
theorem mj_K_app {ad b : List Nat} {r : Option Value} {h' : mj_H} {cE sE : Nat} (k : mj_K p l e R s m args below meth c Q cc D cl tys A c0 ret ad r h' cE sE) : mj_K p l e R s m args below meth c Q cc D cl tys A c0 ret (ad ++ b) r h' cE sE := by
  intro pc ls b2 H' locs' i S h1 h2 h3
  have k1 := k pc ls (b ++ b2) H' locs' i S h1 h2 (by rw [← List.append_assoc]; exact h3)
  rw [← List.append_assoc] at k1
  exact k1
theorem mj_lenOk_len {i : Instr} {len : Nat} (h : mj_lenOk i len = true) (hk : mj_kd i ≠ 2) : len = mj_len i := by
  unfold mj_lenOk at h
  split at h
  · exact absurd rfl hk
  · exact absurd rfl hk
  · exact by simpa using h
theorem mj_kd4 {i : Instr} (h : mj_kd i = 4) : mj_len i = 3 := by
  unfold mj_kd at h
  split at h <;> first | rfl | cases h
theorem mj_kd5 {i : Instr} {S : List Value} {r : Option Value} (h : mj_ret ret i S = some r) : mj_len i = 1 := by
  unfold mj_ret at h
  split at h <;> first | rfl | cases h
theorem mj_kdr {i : Instr} {S : List Value} {r : Option Value} (h : mj_ret ret i S = some r) : mj_kd i = 5 := by
  unfold mj_ret at h
  split at h <;> first | rfl | cases h
theorem mj_inv0 {mt : mj_C} {c0 : Nat} {i : Instr} {S : List Value} {h : mj_H} {As rest : List Value} (hi : mj_inv mt c0 i S h = some (0, As, rest)) : ∃ x k n ci a, i = .invokespecial x ∧ mt x = some (0, k, n, ci) ∧ S = .ref a :: rest ∧ mj_room rest = true := by
  unfold mj_inv at hi
  split at hi
  · split at hi
    · split at hi
      · split at hi
        · split at hi
          · cases hi
          · cases hi
        · cases hi
      · cases hi
    · cases hi
  · split at hi
    · split at hi
      · cases hi
      · cases hi
    · cases hi
  · rename_i x
    split at hi
    · rename_i k n ci hm
      split at hi
      · rename_i a rest1
        split at hi
        · rename_i hro
          obtain ⟨-, h2⟩ := Prod.mk.inj (Option.some.inj hi)
          obtain ⟨-, rfl⟩ := Prod.mk.inj h2
          exact ⟨x, k, n, ci, a, rfl, hm, rfl, hro⟩
        · cases hi
      · cases hi
    · split at hi
      · split at hi
        · cases hi
        · cases hi
      · cases hi
    · cases hi
  · cases hi
set_option maxHeartbeats 8000000 in
theorem mj_run_W (hC : mj_Ctx p s m args meth c cc nL D cl tys tl A c0 (Tg ++ Ns) own T ini) (hst : mj_okS p l e R s m args below meth c Q cc A c0 xa T) (hM : mj_okM (Tg ++ Ns) cl own mt mm) (hg : mj_good Tg) (hNx : ∀ w ∈ Ns, mj_xw w = true) (hZ : mj_Zok Zs A s s.heap) (hX : mj_Xok xt c0 xa A s s.heap) (hkeep : mj_keeps call c0)
    (h7 : mj_S7 l Ns Zs xt xa D cl tys c0 Tg) (hsound : ∀ k As h r h', call k As h = some (r, h') → ∃ d, mj_sound l Ns Zs xt D cl tys c0 xa Tg mm call d ∧ d + Zs.2.2.2.1 + 1 ≤ R.frames ∧ (d + 1) * 40 + Zs.2.2.2.2 ≤ R.locals) (hdep : 0 < dep → 1 + Zs.2.2.2.1 ≤ R.frames ∧ 40 + Zs.2.2.2.2 ≤ R.locals) (hcode : ∀ pc i len, code pc = some (i, len) → decode cc pc = .ok (i, len)) :
    ∀ (n pc : Nat) (L : mj_L) (S : List Value) (h : mj_H) (r : Option Value) (h' : mj_H), mj_run call T mt xt tl c0 nL dep ini ret code n pc L S h = some (r, h') → ∀ (ad : List Nat) (H : Heap) (locs : List Loc) (cells slots cE sE : Nat) (ls : Array Slot), lv_has ls nL (mj_ls ad L) → mj_lok h.length L → mj_sok h.length S → mj_I D cl tys A c0 s.heap ad h H locs → (∀ k, k < c0 → ad.getD k 0 = xa k) →
      cells + (h'.length - h.length) = cE → slots + (mj_sl h' - mj_sl h) = sE → cE ≤ R.cells → sE ≤ R.slots → mj_K p l e R s m args below meth c Q cc D cl tys A c0 ret ad r h' cE sE → W p l e R s m args below meth c H locs cells slots Q (F0 m pc ls (mj_vs ad S)) := by
  obtain ⟨hx, hb, hml, hts, hown, hK, htl, hAq, hini, hF, hCn, hN, hA, hS0⟩ := id hC
  have hN2 : ∀ x ci fs, T.2.2.2.1 x = some (ci, fs) → ∀ v ∈ fs, ∀ k, v ≠ .ref k := fun x ci fs h1 => by
    obtain ⟨_, _, _, _, _, _, _, _, _, _, _, _, q⟩ := hN x ci fs h1
    exact q
  intro n
  induction n with
  | zero => intro pc L S h r h' hr; cases hr
  | succ n ih =>
    intro pc L S h r h' hr ad H locs cells slots cE sE ls hl hL hS hI hxa hcE hsE hcR hsR hk
    unfold mj_run at hr
    split at hr
    · cases hr
    · rename_i i len hcd
      have hdg := hcode _ _ _ hcd
      split at hr
      · rename_i hlen
        split at hr
        · rename_i hkd
          obtain rfl := mj_lenOk_len hlen (by rw [hkd]; decide)
          split at hr
          · rename_i S' hs
            exact mj_alu_W hx hb hs hdg (ih _ _ _ _ _ _ hr _ _ _ _ _ _ _ _ hl hL (mj_alu_ok hs hS) hI hxa hcE hsE hcR hsR hk)
          · cases hr
        · rename_i hkd
          obtain rfl := mj_lenOk_len hlen (by rw [hkd]; decide)
          split at hr
          · rename_i L' S' hs
            obtain ⟨a1, a2⟩ := mj_loc_ok hs hL hS
            exact mj_loc_W hx hb hs hdg hl (fun ls' hl' => ih _ _ _ _ _ _ hr _ _ _ _ _ _ _ _ hl' a1 a2 hI hxa hcE hsE hcR hsR hk)
          · cases hr
        · split at hr
          · rename_i t S' hs
            exact mj_br_W hx hb hs hdg hlen (ih _ _ _ _ _ _ hr _ _ _ _ _ _ _ _ hl hL (mj_br_ok hs hS) hI hxa hcE hsE hcR hsR hk)
          · cases hr
        · rename_i hkd
          obtain rfl := mj_lenOk_len hlen (by rw [hkd]; decide)
          split at hr
          · rename_i S' h1 hs
            obtain ⟨a1, a2, a3, a4⟩ := mj_hp_ok hs hS0 hN2 hI.2.1 hI.2.2.1 hS
            obtain ⟨b1, b2, -, -⟩ := mj_run_ok hkeep hS0 hN2 _ _ _ _ _ _ _ hr (Nat.le_trans hI.2.1 a1) a3 (mj_lok_mono a1 hL) a4
            refine mj_hp_W hC hst hX hs hdg hI hxa hS (by omega) (by omega) (fun b H' locs' hI' => ?_)
            refine ih _ _ _ _ _ _ hr (ad ++ b) H' locs' _ _ cE sE ls ?_ (mj_lok_mono a1 hL) a4 hI' (fun k q => by rw [mj_getD_app (by rw [hI.1]; exact hI.2.1) q]; exact hxa k q) (by omega) (by omega) hcR hsR (mj_K_app hk)
            rw [mj_ls_app (by rw [hI.1]; exact hL)]
            exact hl
          · cases hr
        · rename_i hkd
          obtain rfl := mj_lenOk_len hlen (by rw [hkd]; decide)
          rw [mj_kd4 hkd] at hdg
          split at hr
          · rename_i S1 h1 hp
            split at hr
            · rename_i hd0
              obtain ⟨f1, f2⟩ := hdep hd0
              obtain ⟨a1, a2, a3, a4⟩ := mj_prim_ok hp hI.2.2.1 hS
              obtain ⟨b1, b2, -, -⟩ := mj_run_ok hkeep hS0 hN2 _ _ _ _ _ _ _ hr (Nat.le_trans hI.2.1 a1) a3 (mj_lok_mono a1 hL) a4
              refine mj_prim_W hC hM h7 hg hNx hZ hX f1 f2 (by omega) (by omega) hp hdg hI hS hl.1 (fun b H' locs' hI' => ?_)
              refine ih _ _ _ _ _ _ hr (ad ++ b) H' locs' _ _ cE sE ls ?_ (mj_lok_mono a1 hL) a4 hI' (fun k q => by rw [mj_getD_app (by rw [hI.1]; exact hI.2.1) q]; exact hxa k q) (by omega) (by omega) hcR hsR (mj_K_app hk)
              rw [mj_ls_app (by rw [hI.1]; exact hL)]
              exact hl
            · cases hr
          split at hr
          · rename_i As rest hs
            split at hr
            · rename_i hd0
              obtain ⟨x, k, n1, ci, a, rfl, hm, rfl, hro⟩ := mj_inv0 hs
              obtain ⟨w1, w2, w3⟩ := (hM _ _ _ _ _ hm).1 rfl
              obtain ⟨f19, f29⟩ := hdep hd0
              have f1 : 1 ≤ R.frames := Nat.le_trans (Nat.le_add_right _ _) f19
              have f2 : 40 ≤ R.locals := Nat.le_trans (Nat.le_add_right _ _) f29
              have hcat : ((mj_vs ad rest).map fun v => v.category).sum ≤ 8 := by
                have h1 : (rest.map fun v => v.category).sum ≤ 8 := of_decide_eq_true hro
                unfold mj_vs
                rw [List.map_map, show ((fun v => v.category) ∘ mj_v ad) = (fun v : Value => v.category) from funext fun v => mj_v_cat ad v]
                exact h1
              have hroom := lv_room (m := m) (pc := pc) (ls := ls) (rest := mj_vs ad (.ref a :: rest)) hcat
              refine W.objInit hx hb hown (hts _ w1) (hts _ w2) (hts _ w3) rfl (by rw [hml]; exact hl.1) rfl hdg f1 (show 2 * (F0 m pc ls (mj_vs ad (.ref a :: rest))).monitorRoom + ((mj_vs ad rest).map fun v => v.category).sum + 12 ≤ R.locals by omega) ?_
              exact ih _ _ _ _ _ _ hr _ _ _ _ _ _ _ _ hl hL (mj_sok_cons.mp hS).2 hI hxa hcE hsE hcR hsR hk
            · cases hr
          · rename_i k As rest hs
            split at hr
            · rename_i r1 h1 hcl
              obtain ⟨s1, s2⟩ := mj_inv_ok hs hS
              obtain ⟨a1, a2, a3, a4⟩ := hkeep _ _ _ _ _ hcl hI.2.1 hI.2.2.1 s1
              have hS1 : mj_sok h1.length (r1.toList ++ rest) := fun v hv => (List.mem_append.mp hv).elim (a4 v) (fun q => mj_vok_mono a1 (s2 v q))
              obtain ⟨b1, b2, -, -⟩ := mj_run_ok hkeep hS0 hN2 _ _ _ _ _ _ _ hr (Nat.le_trans hI.2.1 a1) a3 (mj_lok_mono a1 hL) hS1
              obtain ⟨d, hsd, hRf, hRl⟩ := hsound _ _ _ _ _ hcl
              refine mj_inv_W hC hM hg hNx hZ hX hsd hRf hRl hs hcl hdg hI hxa hS hl.1 (by omega) (by omega) (fun b H' locs' hI' => ?_)
              refine ih _ _ _ _ _ _ hr (ad ++ b) H' locs' _ _ cE sE ls ?_ (mj_lok_mono a1 hL) hS1 hI' (fun k q => by rw [mj_getD_app (by rw [hI.1]; exact hI.2.1) q]; exact hxa k q) (by omega) (by omega) hcR hsR (mj_K_app hk)
              rw [mj_ls_app (by rw [hI.1]; exact hL)]
              exact hl
            · cases hr
          · cases hr
        · obtain ⟨r1, h1, h2⟩ := mj_map_spec hr
          obtain ⟨rfl, rfl⟩ := Prod.mk.inj h2
          have e1 : len = mj_len i := mj_lenOk_len hlen (by rw [mj_kdr h1]; decide)
          rw [e1, mj_kd5 h1] at hdg
          have k1 := hk pc ls [] H locs i S hdg h1 (by rw [List.append_nil]; exact hI)
          rw [List.append_nil] at k1
          rw [Nat.sub_self] at hcE hsE
          subst hcE
          subst hsE
          exact k1
      · cases hr
end MJ12
