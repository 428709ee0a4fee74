/-! mj: array stores, lengths, new cells, constants of the pool -/
theorem mj_up_map (ad : List Nat) (f : Nat → Option Nat) (j : Nat) (r : Option Nat) : (fun i => (va_up f j r i).map fun k => ad.getD k 0) = va_up (fun i => (f i).map fun k => ad.getD k 0) j (r.map fun k => ad.getD k 0) := by
  funext i
  unfold va_up
  by_cases hi : i = j
  · rw [if_pos hi, if_pos hi]
  · rw [if_neg hi, if_neg hi]
section MJ7
variable {p : Program} {l : Launch} {e : Env} {R : Room} {s : State} {m : MethodId} {args : Array Value} {below : List Frame} {meth : Method} {c : Code} {H : Heap} {locs : List Loc} {cells slots : Nat} {Q : State → Prop}
variable {cc : ByteArray} {pc : Nat} {ls : Array Slot} {ad : List Nat}
variable {D : va_G} {cl : List vw_C} {tys : List (ClassId × FieldType)} {A : Nat → Prop} {c0 : Nat} {h h' : mj_H} {S S' : List Value} {Ts : List Cond} {own : String} {T : mj_T} {tl : List (FieldType × Nat)} {xt : mj_X} {xa : Nat → Nat}
set_option maxHeartbeats 4000000 in
theorem mj_ast_W (hx : p.tables.exec = Jvm.exec) (hb : c.code = cc) (hK : va_K D cl tys s) (htl : tys.map (fun q => q.2) = tl.map (fun q => q.1)) (hA : mj_okA Ts cl tl own T) {i : Instr} (hs : mj_ast tl c0 i S h = some (S', h')) (hdg : decode cc pc = .ok (i, 1)) (hI : mj_I D cl tys A c0 s.heap ad h H locs) (hok : mj_sok h.length S)
    (kk : ∀ H' locs', h'.length = h.length → mj_sl h' = mj_sl h → mj_I D cl tys A c0 s.heap ad h' H' locs' → W p l e R s m args below meth c H' locs' cells slots Q (F0 m (pc + 1) ls (mj_vs ad S'))) : W p l e R s m args below meth c H locs cells slots Q (F0 m pc ls (mj_vs ad S)) := by
  unfold mj_ast at hs
  split at hs
  · rename_i v j a S0
    split at hs
    · cases hs
    · rename_i hca0
      have hca : c0 ≤ a := Nat.le_of_not_lt hca0
      have hP := mj_I_drop hI
      have hD := hI.2.2.2.2.1
      have hS := hI.2.2.2.2.2.1
      split at hs
      · rename_i t n f he
        have hg := mj_I_dget hI hca he
        split at hs
        · cases hs
        · rename_i hj
          split at hs
          · rename_i ci x ht
            obtain ⟨rfl, rfl⟩ := Prod.mk.inj (Option.some.inj hs)
            exact va_iast hx hb hK hP hD hS (a - c0) t hg (mj_tys htl ht) hj hdg (fun H1 locs1 hP1 hD1 hS1 => kk H1 locs1 (List.length_set ..) (mj_sl_set he rfl) (mj_I_put hI hca (e' := .inl (t, n, .inl (upd f j.toNatClampNeg x))) trivial hP1 hD1 hS1))
          · rename_i ci x ht
            obtain ⟨rfl, rfl⟩ := Prod.mk.inj (Option.some.inj hs)
            exact va_bast hx hb hK hP hD hS (a - c0) t hg (mj_tys htl ht) hj hdg (fun H1 locs1 hP1 hD1 hS1 => kk H1 locs1 (List.length_set ..) (mj_sl_set he rfl) (mj_I_put hI hca (e' := .inl (t, n, .inl (upd f j.toNatClampNeg (vp_nar .byte x)))) trivial hP1 hD1 hS1))
          · rename_i ci x ht
            obtain ⟨rfl, rfl⟩ := Prod.mk.inj (Option.some.inj hs)
            exact va_zast hx hb hK hP hD hS (a - c0) t hg (mj_tys htl ht) hj hdg (fun H1 locs1 hP1 hD1 hS1 => kk H1 locs1 (List.length_set ..) (mj_sl_set he rfl) (mj_I_put hI hca (e' := .inl (t, n, .inl (upd f j.toNatClampNeg (vp_nar .boolean x)))) trivial hP1 hD1 hS1))
          · cases hs
      · rename_i t n f he
        have hg := mj_I_dget hI hca he
        split at hs
        · cases hs
        · rename_i hj
          split at hs
          · rename_i ci x ht
            obtain ⟨rfl, rfl⟩ := Prod.mk.inj (Option.some.inj hs)
            exact va_last hx hb hK hP hD hS (a - c0) t hg (mj_tys htl ht) hj hdg (fun H1 locs1 hP1 hD1 hS1 => kk H1 locs1 (List.length_set ..) (mj_sl_set he rfl) (mj_I_put hI hca (e' := .inl (t, n, .inr (.inl (vp_updL f j.toNatClampNeg x)))) trivial hP1 hD1 hS1))
          · cases hs
      · rename_i t n f he
        have hg := mj_I_dget hI hca he
        have hfo : ∀ i k, f i = some k → k < h.length := hI.2.2.1 _ (List.mem_of_getElem? he)
        split at hs
        · cases hs
        · rename_i hj
          split at hs
          · rename_i C ci ht
            obtain ⟨rfl, rfl⟩ := Prod.mk.inj (Option.some.inj hs)
            refine va_astqN hx hb hK hP hD hS (a - c0) t hg (mj_tys htl ht) hj hdg (fun H1 locs1 hP1 hD1 hS1 => kk H1 locs1 (List.length_set ..) (mj_sl_set he rfl) (mj_I_put hI hca (e' := .inl (t, n, .inr (.inr (.inr (.inr (va_up f j.toNatClampNeg none)))))) ?_ ?_ ?_ hS1))
            · intro i k hik
              unfold va_up at hik
              by_cases hi : i = j.toNatClampNeg
              · rw [if_pos hi] at hik; cases hik
              · rw [if_neg hi] at hik; exact hfo i k hik
            · show va_P D cl (List.set _ _ (_, Sum.inl (_, n, Sum.inr (Sum.inr (Sum.inr (Sum.inr (fun i => (va_up f j.toNatClampNeg none i).map fun k => ad.getD k 0))))))) H1
              rw [mj_up_map]; exact hP1
            · show va_D A (List.set _ _ (_, Sum.inl (_, n, Sum.inr (Sum.inr (Sum.inr (Sum.inr (fun i => (va_up f j.toNatClampNeg none i).map fun k => ad.getD k 0)))))))
              rw [mj_up_map]; exact hD1
          · rename_i C ci b ht
            split at hs
            · rename_i c1 vs hb1
              split at hs
              · rename_i hc
                obtain ⟨hc, hbc⟩ := hc
                subst hc
                obtain ⟨rfl, rfl⟩ := Prod.mk.inj (Option.some.inj hs)
                obtain ⟨r, hr, hrC⟩ := hA.2.1 _ _ _ ht
                have hbl : b < h.length := (List.getElem?_eq_some_iff.mp hb1).1
                · have ht2 := mj_tys htl ht
                  rw [← hrC] at ht2
                  refine va_astq hx hb hK hP hD hS (a - c0) t (b - c0) c1 hg ht2 (mj_I_dget hI hbc hb1) hr hj hdg (fun H1 locs1 hP1 hD1 hS1 => kk H1 locs1 (List.length_set ..) (mj_sl_set he rfl) (mj_I_put hI hca (e' := .inl (t, n, .inr (.inr (.inr (.inr (va_up f j.toNatClampNeg (some b))))))) ?_ ?_ ?_ hS1))
                  · intro i k hik
                    unfold va_up at hik
                    by_cases hi : i = j.toNatClampNeg
                    · rw [if_pos hi] at hik; cases hik; exact hbl
                    · rw [if_neg hi] at hik; exact hfo i k hik
                  · show va_P D cl (List.set _ _ (_, Sum.inl (_, n, Sum.inr (Sum.inr (Sum.inr (Sum.inr (fun i => (va_up f j.toNatClampNeg (some b) i).map fun k => ad.getD k 0))))))) H1
                    rw [mj_up_map]; exact hP1
                  · show va_D A (List.set _ _ (_, Sum.inl (_, n, Sum.inr (Sum.inr (Sum.inr (Sum.inr (fun i => (va_up f j.toNatClampNeg (some b) i).map fun k => ad.getD k 0)))))))
                    rw [mj_up_map]; exact hD1
              · cases hs
            · cases hs
          · cases hs
      · cases hs
  · cases hs
theorem mj_aln_W (hx : p.tables.exec = Jvm.exec) (hb : c.code = cc) (hK : va_K D cl tys s) (htl : tys.map (fun q => q.2) = tl.map (fun q => q.1)) (hX : mj_Xok xt c0 xa A s s.heap) (hxa : ∀ k, k < c0 → ad.getD k 0 = xa k) (hs : mj_aln xt tl c0 S h = some (S', h')) (hdg : decode cc pc = .ok (.arraylength, 1)) (hI : mj_I D cl tys A c0 s.heap ad h H locs)
    (kk : h' = h → W p l e R s m args below meth c H locs cells slots Q (F0 m (pc + 1) ls (mj_vs ad S'))) : W p l e R s m args below meth c H locs cells slots Q (F0 m pc ls (mj_vs ad S)) := by
  unfold mj_aln at hs
  split at hs
  · rename_i a S0
    split at hs
    · rename_i hac
      obtain ⟨q, hq, h2⟩ := mj_map_spec hs
      obtain ⟨rfl, rfl⟩ := Prod.mk.inj h2
      have hT := (hX _ _ _ _ hq).2
      rw [← hxa a hac] at hT
      exact va_tlen hx hb hT hI.2.2.2.2.2.1 rfl hdg (kk rfl)
    · rename_i hac
      have hca : c0 ≤ a := Nat.le_of_not_lt hac
      split at hs
      · rename_i t n f he
        split at hs
        · rename_i q ht
          obtain ⟨rfl, rfl⟩ := Prod.mk.inj (Option.some.inj hs)
          exact va_alen hx hb hK (mj_I_at hI hca he) 0 t rfl (mj_tys htl (ty := q.1) (ci := q.2) ht) rfl hdg (kk rfl)
        · cases hs
      · cases hs
  · cases hs
set_option maxHeartbeats 4000000 in
theorem mj_nwa_W (hx : p.tables.exec = Jvm.exec) (hb : c.code = cc) (hts : ∀ w ∈ Ts, w.before args s = true) (hK : va_K D cl tys s) (htl : tys.map (fun q => q.2) = tl.map (fun q => q.1)) (hA : mj_okA Ts cl tl own T) (hAq : ∀ q, s.heap.size ≤ q → A q) {aty : ArrayType} (hs : mj_nwa tl aty S h = some (S', h')) (hdg : decode cc pc = .ok (.newarray aty, 2)) (hI : mj_I D cl tys A c0 s.heap ad h H locs)
    (hrc : cells + 1 ≤ R.cells) (hrs : slots + (mj_sl h' - mj_sl h) ≤ R.slots)
    (kk : ∀ q H', h'.length = h.length + 1 → mj_I D cl tys A c0 s.heap (ad ++ [q]) h' H' locs → W p l e R s m args below meth c H' locs (cells + 1) (slots + (mj_sl h' - mj_sl h)) Q (F0 m (pc + 2) ls (.ref q :: mj_vs ad S'.tail))) : W p l e R s m args below meth c H locs cells slots Q (F0 m pc ls (mj_vs ad S)) := by
  unfold mj_nwa at hs
  split at hs
  · rename_i n S0
    split at hs
    · rename_i t f hna
      split at hs
      · cases hs
      · rename_i hc
        obtain ⟨rfl, rfl⟩ := Prod.mk.inj (Option.some.inj hs)
        have hn : ¬ n < 0 := fun z => hc (Or.inl z)
        have hN : n.toNatClampNeg ≤ 1000000 := Nat.le_of_not_lt fun z => hc (Or.inr (Or.inl z))
        have ht : (tl[t]?).map (fun q => q.1) = some (newarray.typeOf aty) := Classical.byContradiction fun z => hc (Or.inr (Or.inr z))
        obtain ⟨q1, hq1, hq2⟩ := mj_map_spec ht
        have hty : tys[t]? = some ((tys.getD t (0, .int)).1, newarray.typeOf aty) := mj_tys htl (ci := q1.2) (by rw [hq1, ← hq2])
        have hsl : mj_sl (h ++ [.inl (t, n.toNatClampNeg, f)]) - mj_sl h = n.toNatClampNeg := by rw [mj_sl_push]; exact Nat.add_sub_cancel_left ..
        rw [hsl] at hrs
        have hP := mj_I_drop hI
        have hD := hI.2.2.2.2.1
        have hS := hI.2.2.2.2.2.1
        have hw := hts _ (hA.2.2 aty (by rw [hna]; exact fun z => by cases z))
        have hbytes : n.toNatClampNeg * componentBytes (newarray.typeOf aty) ≤ 536870912 := by
          have h8 : componentBytes (newarray.typeOf aty) ≤ 8 := by cases aty <;> decide
          exact Nat.le_trans (Nat.mul_le_mul hN h8) (by decide)
        have ha0 : (∀ cA : ClassId, vp_cell cA (n.toNatClampNeg, f) = arrV cA n.toNatClampNeg (fun _ => defaultValue (newarray.typeOf aty))) ∧ mj_a ad (n.toNatClampNeg, f) = (n.toNatClampNeg, f) ∧ mj_eok h.length (.inl (t, n.toNatClampNeg, f)) := by
          cases aty <;> first | (cases hna; done) | (obtain ⟨rfl, rfl⟩ := Prod.mk.inj (Option.some.inj hna); exact ⟨fun _ => rfl, rfl, trivial⟩)
        refine va_newa hx hb hw rfl hK hP hD hS hAq ha0.1 hn rfl hbytes hrc hrs hdg (fun q cA H1 hK1 hP1 hD1 hS1 => ?_)
        have hcA : (tys.getD t (0, .int)).1 = cA := mj_RA_uniq (hK.2 t _ hty).2 (hK1.2 tys.length (cA, newarray.typeOf aty) (by rw [List.getElem?_append_right (Nat.le_refl _), Nat.sub_self]; rfl)).2
        have e1 : mj_e tys ad (.inl (t, n.toNatClampNeg, f)) = .inl (cA, n.toNatClampNeg, f) := by
          show Sum.inl (_, mj_a ad _) = _
          rw [ha0.2.1, hcA]
        rw [← e1] at hP1 hD1
        have k1 := kk q H1 (by rw [List.length_append]; rfl) (mj_I_new hI ha0.2.2 hP1 hD1 hS1)
        rw [hsl] at k1
        exact k1
    · cases hs
  · cases hs
set_option maxHeartbeats 4000000 in
theorem mj_nwq_W (hx : p.tables.exec = Jvm.exec) (hb : c.code = cc) (hts : ∀ w ∈ Ts, w.before args s = true) (hown : s.vm.findClass own = some m.cls) (hK : va_K D cl tys s) (htl : tys.map (fun q => q.2) = tl.map (fun q => q.1)) (hA : mj_okA Ts cl tl own T) (hAO : ∀ C, Cond.arrayOver (FieldType.object C) ∈ Ts → va_AO C s) (hAq : ∀ q, s.heap.size ≤ q → A q) {x : Nat} (hs : mj_nwq T x S h = some (S', h')) (hdg : decode cc pc = .ok (.anewarray x, 3)) (hI : mj_I D cl tys A c0 s.heap ad h H locs)
    (hrc : cells + 1 ≤ R.cells) (hrs : slots + (mj_sl h' - mj_sl h) ≤ R.slots)
    (kk : ∀ q H', h'.length = h.length + 1 → mj_I D cl tys A c0 s.heap (ad ++ [q]) h' H' locs → W p l e R s m args below meth c H' locs (cells + 1) (slots + (mj_sl h' - mj_sl h)) Q (F0 m (pc + 3) ls (.ref q :: mj_vs ad S'.tail))) : W p l e R s m args below meth c H locs cells slots Q (F0 m pc ls (mj_vs ad S)) := by
  unfold mj_nwq at hs
  split at hs
  · rename_i n S0
    split at hs
    · rename_i t hT
      split at hs
      · cases hs
      · rename_i hc
        obtain ⟨rfl, rfl⟩ := Prod.mk.inj (Option.some.inj hs)
        have hn : ¬ n < 0 := fun z => hc (Or.inl z)
        have hN : n.toNatClampNeg ≤ 1000000 := Nat.le_of_not_lt fun z => hc (Or.inr z)
        obtain ⟨C, ci, ht, hl, ho⟩ := hA.1 _ _ hT
        have hty := mj_tys htl ht
        have hsl : mj_sl (h ++ [.inl (t, n.toNatClampNeg, .inr (.inr (.inr (.inr fun _ => none))))]) - mj_sl h = n.toNatClampNeg := by rw [mj_sl_push]; exact Nat.add_sub_cancel_left ..
        rw [hsl] at hrs
        have hP := mj_I_drop hI
        have hD := hI.2.2.2.2.1
        have hS := hI.2.2.2.2.2.1
        refine va_newq hx hb hown (hts _ hl) (hAO _ ho) hK hP hD hS hAq hn rfl (by omega) hrc hrs hdg (fun q cA H1 hK1 hP1 hD1 hS1 => ?_)
        have hcA : (tys.getD t (0, .int)).1 = cA := mj_RA_uniq (hK.2 t _ hty).2 (hK1.2 tys.length (cA, .object C) (by rw [List.getElem?_append_right (Nat.le_refl _), Nat.sub_self]; rfl)).2
        have e1 : mj_e tys ad (.inl (t, n.toNatClampNeg, .inr (.inr (.inr (.inr fun _ => none))))) = .inl (cA, n.toNatClampNeg, .inr (.inr (.inr (.inr fun _ => none)))) := by
          show Sum.inl (_, _) = _
          rw [hcA]
          rfl
        rw [← e1] at hP1 hD1
        have hok1 : mj_eok h.length (.inl (t, n.toNatClampNeg, .inr (.inr (.inr (.inr fun _ => none))))) := fun i k hk => by cases hk
        have k1 := kk q H1 (by rw [List.length_append]; rfl) (mj_I_new hI hok1 hP1 hD1 hS1)
        rw [hsl] at k1
        exact k1
    · cases hs
  · cases hs
set_option maxHeartbeats 4000000 in
theorem mj_nw_W (hx : p.tables.exec = Jvm.exec) (hb : c.code = cc) (hts : ∀ w ∈ Ts, w.before args s = true) (hown : s.vm.findClass own = some m.cls) (hK : va_K D cl tys s) (hN : mj_okN Ts cl own T) (hAq : ∀ q, s.heap.size ≤ q → A q) {x : Nat} (hs : mj_nw T x S h = some (S', h')) (hdg : decode cc pc = .ok (.new x, 3)) (hI : mj_I D cl tys A c0 s.heap ad h H locs)
    (hrc : cells + 1 ≤ R.cells) (hrs : slots + (mj_sl h' - mj_sl h) ≤ R.slots)
    (kk : ∀ q H', h'.length = h.length + 1 → mj_I D cl tys A c0 s.heap (ad ++ [q]) h' H' locs → W p l e R s m args below meth c H' locs (cells + 1) (slots + (mj_sl h' - mj_sl h)) Q (F0 m (pc + 3) ls (.ref q :: mj_vs ad S'.tail))) : W p l e R s m args below meth c H locs cells slots Q (F0 m pc ls (mj_vs ad S)) := by
  unfold mj_nw at hs
  split at hs
  · rename_i ci fs hT
    obtain ⟨rfl, rfl⟩ := Prod.mk.inj (Option.some.inj hs)
    obtain ⟨C, tb, N, ty0, hc, hin, hty, hl, hi, hini, hfs, hlen, hnr⟩ := hN _ _ _ hT
    have hsl : mj_sl (h ++ [.inr (ci, fs)]) - mj_sl h = N := by rw [mj_sl_push, ← hlen]; exact Nat.add_sub_cancel_left ..
    rw [hsl] at hrs
    have hP := mj_I_drop hI
    have hD := hI.2.2.2.2.1
    have hS := hI.2.2.2.2.2.1
    have hvs : mj_vs ad fs = fs := by
      unfold mj_vs
      conv => rhs; rw [← List.map_id fs]
      exact List.map_congr_left fun v hv => by
        cases v with
        | ref k => exact absurd rfl (hnr _ hv k)
        | _ => rfl
    refine va_new hx hb hts hin ty0 hty hown (hts _ hl) (hts _ hi) (hts _ hini) hK hP hD hS hAq hc hfs hrc hrs hdg (fun q H1 hP1 hD1 hS1 => ?_)
    have e1 : mj_e tys ad (.inr (ci, fs)) = .inr (ci, fs) := by
      show Sum.inr (_, mj_vs ad fs) = _
      rw [hvs]
    rw [← e1] at hP1 hD1
    have hok1 : mj_eok h.length (.inr (ci, fs)) := fun v hv k hk => absurd hk (hnr v hv k)
    have k1 := kk q H1 (by rw [List.length_append]; rfl) (mj_I_new hI hok1 hP1 hD1 hS1)
    rw [hsl] at k1
    exact k1
  · cases hs
end MJ7
