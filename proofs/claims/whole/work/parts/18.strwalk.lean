/-! strings: String's own methods over the two constants, and sortOfByte, walked in the JVM itself -/
def sb_nI1 : MethodName := ⟨"java/lang/String", "indexOf", "(I)I"⟩
def sb_nI2 : MethodName := ⟨"java/lang/String", "indexOf", "(II)I"⟩
def sb_nL : MethodName := ⟨"java/lang/String", "isLatin1", "()Z"⟩
def sb_nN : MethodName := ⟨"java/lang/String", "length", "()I"⟩
def sb_nC : MethodName := ⟨"java/lang/String", "coder", "()B"⟩
def sb_nX : MethodName := ⟨"java/lang/StringLatin1", "indexOf", "([BIII)I"⟩
def sb_cI1 : Cond := Cond.code sb_nI1 prog_19_method_79_code 2 (some .int)
def sb_cI2 : Cond := Cond.code sb_nI2 prog_19_method_80_code 3 (some .int)
def sb_cL : Cond := Cond.code sb_nL prog_19_method_154_code 1 (some .boolean)
def sb_cN : Cond := Cond.code sb_nN prog_19_method_54_code 1 (some .int)
def sb_cC : Cond := Cond.code sb_nC prog_19_method_152_code 1 (some .byte)
def sb_jw : List Cond := [sb_cI1, sb_cI2, sb_cL, sb_cN, sb_cC, Cond.initialized "java/lang/String", Cond.instanceMethod sb_nI1, Cond.instanceMethod sb_nI2, Cond.instanceMethod sb_nL, Cond.instanceMethod sb_nN, Cond.instanceMethod sb_nC, Cond.selects "java/lang/String" sb_nI1 sb_nI1, Cond.selects "java/lang/String" sb_nI2 sb_nI2, Cond.selects "java/lang/String" sb_nL sb_nL, Cond.selects "java/lang/String" sb_nN sb_nN, Cond.selects "java/lang/String" sb_nC sb_nC, Cond.methodLink "ArrayCalculator$Tokens" 110 sb_nI1, Cond.methodLink "java/lang/String" 633 sb_nI2, Cond.methodLink "java/lang/String" 492 sb_nL, Cond.methodLink "java/lang/String" 505 sb_nN, Cond.methodLink "java/lang/String" 335 sb_nC, Cond.methodLink "java/lang/String" 637 sb_nX, Cond.fieldLink "java/lang/String" 38 "java/lang/String" "COMPACT_STRINGS" "Z", Cond.fieldLink "java/lang/String" 15 "java/lang/String" "coder" "B", Cond.fieldLink "java/lang/String" 9 "java/lang/String" "value" "[B"]
def sb_ws : List Cond := sb_jw ++ sb_Tg
theorem sb_jg : (sb_jw.all goodWord) = true := by decide +kernel
theorem sb_wg {w : Cond} (h : w ∈ sb_ws) : goodWord w = true := (List.mem_append.mp h).elim (List.all_eq_true.mp sb_jg w) (List.all_eq_true.mp sb_gw w)
theorem sb_goodIn {Ts : List Cond} {w0 : Cond} (h0 : w0 ∈ sb_ws) (hsb : ∀ w ∈ sb_ws, w ∈ Ts) : GoodIn Ts (w0 :: sb_ws) := fun w hw => (List.mem_cons.mp hw).elim (fun z => by rw [z]; exact ⟨hsb _ h0, good_of_word (sb_wg h0)⟩) (fun z => ⟨hsb _ z, good_of_word (sb_wg z)⟩)
def sb_E (adK adV : Nat → Nat) (A : Nat → Prop) (U : State) (H : Heap) : Prop := va_Z "java/lang/String" "COMPACT_STRINGS" "Z" (.int 1) A U H ∧ vk_S 2 [19, 8] [mj_verbs, mj_marks] adK adV A U H
theorem sb_E.call {adK adV : Nat → Nat} {A B : Nat → Prop} {s U : State} {H : Heap} (h : sb_E adK adV A s s.heap) (hk : ∀ a : Nat, a < s.heap.size → ¬ A a → H[a]? = s.heap[a]?) (hW : s.WarmedH U.vm) (hAB : ∀ q, B q → A q) : sb_E adK adV B U H := ⟨((h.1.kept hk).moved hW.alike).narrow hAB, ((h.2.kept hk).moved hW.alike).narrow hAB⟩
def sb_P (adK adV : Nat → Nat) (av : List Value) (sz : Nat) : Array Value → State → Prop := fun v U => v = av.toArray ∧ U.heap.size = sz ∧ sb_E adK adV (fun q => sz ≤ q) U U.heap
def sb_Q (v : Value) : Array Value → State → Outcome → State → Prop := fun _ st o t => o = .returned (some v) ∧ st.heap.size ≤ t.heap.size ∧ ∀ q : Nat, q < st.heap.size → t.heap[q]? = st.heap[q]?
theorem sb_blind (adK adV : Nat → Nat) (av : List Value) (sz : Nat) : FrameBlind (sb_P adK adV av sz) := by
  intro a U g mk q
  obtain ⟨q0, q1, q2, q3⟩ := q
  exact ⟨q0, q1, q2.moved (u := U) (U := U.calling g mk a) (Vm.Alike.refl U.vm), q3.moved (u := U) (U := U.calling g mk a) (Vm.Alike.refl U.vm)⟩
section SB
variable {p : Program} {l : Launch} {e : Env} {R : Room} {s : State} {m : MethodId} {args : Array Value} {below : List Frame} {meth : Method} {c : Code} {H : Heap} {locs : List Loc} {cells slots : Nat} {Q : State → Prop}
variable {cc : ByteArray} {pc nL : Nat} {ls : Array Slot} {A : Nat → Prop} {adK adV : Nat → Nat} {own : String} {Ts : List Cond}
theorem sb_next {Qa : State → Outcome → State → Prop} {st0 rest : List Value} {v : Value} (hq : ∀ st o t, st.heap = H → Qa st o t → o = .returned (some v) ∧ H.size ≤ t.heap.size ∧ ∀ q : Nat, q < H.size → t.heap[q]? = H[q]?)
    (hr : va_Run p l e R s m args below meth c H locs cells slots 0 0 (F0 m pc ls st0) rest Qa (fun q => H.size ≤ q)) (hS : va_S A s.heap H locs) (hAq : ∀ q, s.heap.size ≤ q → A q)
    (kk : ∀ H' locs', va_S A s.heap H' locs' → W p l e R s m args below meth c H' locs' cells slots Q (F0 m (pc + 3) ls (v :: rest))) : W p l e R s m args below meth c H locs cells slots Q (F0 m pc ls st0) := by
  intro T hT X
  obtain ⟨v', st₀, t, T', L, h0, X', hL, e1, e2, hQ, st⟩ := hr T hT X
  obtain ⟨g1, g2, g3⟩ := hq _ _ _ h0 hQ
  have hv : v' = some v := by injection g1
  subst hv
  have hS' : va_S A s.heap T'.heap (locs ++ L) := ⟨Nat.le_trans hS.1 (by rw [e1]; exact g2), fun a ha hn => by rw [e1, g3 a (Nat.lt_of_lt_of_le ha hS.1)]; exact hS.2.1 a ha hn, fun q hq => (List.mem_append.mp hq).elim (hS.2.2 q) (fun z => hAq _ (Nat.le_trans hS.1 (hL q z)))⟩
  obtain ⟨t2, a1, b1⟩ := kk T'.heap (locs ++ L) hS' T' rfl X'
  exact ⟨t2, st t2 a1, b1⟩
/-- a call of one of String's own methods on the constant i -/
theorem sb_callV {y : MethodName} {bytes : ByteArray} {maxL n i index : Nat} {ret : Option FieldType} {rm : Room} {As rest : List Value} {v : Value} (fix : CallFix p m c cc nL s args Ts own) (hsb : ∀ w ∈ sb_ws, w ∈ Ts) (hi : i < 2)
    (hMet : ∀ sz, Met l y (Cond.code y bytes maxL ret :: sb_ws) rm (sb_P adK adV (.ref (adK i) :: As) sz) (sb_Q v) 0 0 (fun q => sz ≤ q)) (hrc : rm.cells = 0) (hrs : rm.slots = 0) (hcode : Cond.code y bytes maxL ret ∈ sb_ws) (hini : Cond.initialized y.cls ∈ sb_ws) (hlink : Cond.methodLink own index y ∈ sb_ws) (hinst : Cond.instanceMethod y ∈ sb_ws) (hsel : Cond.selects "java/lang/String" y y ∈ sb_ws)
    (hd : y.cls ≠ "java/lang/invoke/MethodHandle" ∧ y.cls ≠ "java/lang/invoke/VarHandle" ∧ (parseMethodDescriptor y.desc).map (fun d => d.parameters.length) = some n) (hRm : rm.frames + 1 ≤ R.frames ∧ 8 + (maxL + 11) + rm.locals ≤ R.locals) (hn : As.length = n) (hE : sb_E adK adV A s s.heap) (hS : va_S A s.heap H locs) (hAq : ∀ q, s.heap.size ≤ q → A q) (hls : ls.size = nL) (hro : (rest.map fun v => v.category).sum ≤ 8) (hdg : decode cc pc = .ok (.invokevirtual index, 3)) (hcc : cells ≤ R.cells) (hss : slots ≤ R.slots)
    (kk : ∀ H' locs', va_S A s.heap H' locs' → W p l e R s m args below meth c H' locs' cells slots Q (F0 m (pc + 3) ls (v :: rest))) : W p l e R s m args below meth c H locs cells slots Q (F0 m pc ls (As.reverse ++ .ref (adK i) :: rest)) := by
  obtain ⟨hx, hb, hml, hown, hts⟩ := id fix
  have cw := callB_of (R := R) (rm := rm) (ws := Cond.code y bytes maxL ret :: sb_ws) n hts (sb_goodIn hcode hsb) rfl hrc hrs (hts _ (hsb _ hini)) (hts _ (hsb _ hlink)) hd hRm
  have hp : PreV s H "java/lang/String" (adK i) (sb_P adK adV (.ref (adK i) :: As) H.size) As := ⟨sb_blind _ _ _ _, vk_recv hE.2 hi hS, fun U hU hW => ⟨rfl, by rw [hU], by rw [hU]; exact hE.call hS.2.1 hW (fun q z => hAq q (Nat.le_trans hS.1 z))⟩⟩
  exact sb_next (fun st o t h0 hQ => by obtain ⟨g1, g2, g3⟩ := hQ; rw [h0] at g2 g3; exact ⟨g1, g2, g3⟩) (va_runV fix (hMet H.size) ⟨cw, hts _ (hsb _ hinst), hts _ (hsb _ hsel)⟩ hp rfl hn hls rfl (lv_room hro) hdg ⟨hcc, hss⟩) hS hAq kk
end SB
theorem sd_c_0 : decode prog_19_method_152_code 0 = .ok (.getstatic 38, 3) := mj_dec_ok (by decide +kernel)
theorem sd_c_3 : decode prog_19_method_152_code 3 = .ok (.ifCond .eq 10, 3) := mj_dec_ok (by decide +kernel)
theorem sd_c_6 : decode prog_19_method_152_code 6 = .ok (.aload_n 0, 1) := mj_dec_ok (by decide +kernel)
theorem sd_c_7 : decode prog_19_method_152_code 7 = .ok (.getfield 15, 3) := mj_dec_ok (by decide +kernel)
theorem sd_c_10 : decode prog_19_method_152_code 10 = .ok (.goto 4, 3) := mj_dec_ok (by decide +kernel)
theorem sd_c_14 : decode prog_19_method_152_code 14 = .ok (.ireturn, 1) := mj_dec_ok (by decide +kernel)
theorem sd_n_0 : decode prog_19_method_54_code 0 = .ok (.aload_n 0, 1) := mj_dec_ok (by decide +kernel)
theorem sd_n_1 : decode prog_19_method_54_code 1 = .ok (.getfield 9, 3) := mj_dec_ok (by decide +kernel)
theorem sd_n_4 : decode prog_19_method_54_code 4 = .ok (.arraylength, 1) := mj_dec_ok (by decide +kernel)
theorem sd_n_5 : decode prog_19_method_54_code 5 = .ok (.aload_n 0, 1) := mj_dec_ok (by decide +kernel)
theorem sd_n_6 : decode prog_19_method_54_code 6 = .ok (.invokevirtual 335, 3) := mj_dec_ok (by decide +kernel)
theorem sd_n_9 : decode prog_19_method_54_code 9 = .ok (.ishr, 1) := mj_dec_ok (by decide +kernel)
theorem sd_n_10 : decode prog_19_method_54_code 10 = .ok (.ireturn, 1) := mj_dec_ok (by decide +kernel)
theorem sd_l_0 : decode prog_19_method_154_code 0 = .ok (.getstatic 38, 3) := mj_dec_ok (by decide +kernel)
theorem sd_l_3 : decode prog_19_method_154_code 3 = .ok (.ifCond .eq 14, 3) := mj_dec_ok (by decide +kernel)
theorem sd_l_6 : decode prog_19_method_154_code 6 = .ok (.aload_n 0, 1) := mj_dec_ok (by decide +kernel)
theorem sd_l_7 : decode prog_19_method_154_code 7 = .ok (.getfield 15, 3) := mj_dec_ok (by decide +kernel)
theorem sd_l_10 : decode prog_19_method_154_code 10 = .ok (.ifCond .ne 7, 3) := mj_dec_ok (by decide +kernel)
theorem sd_l_13 : decode prog_19_method_154_code 13 = .ok (.iconst 1, 1) := mj_dec_ok (by decide +kernel)
theorem sd_l_14 : decode prog_19_method_154_code 14 = .ok (.goto 4, 3) := mj_dec_ok (by decide +kernel)
theorem sd_l_18 : decode prog_19_method_154_code 18 = .ok (.ireturn, 1) := mj_dec_ok (by decide +kernel)
theorem sd_j_0 : decode prog_19_method_80_code 0 = .ok (.aload_n 0, 1) := mj_dec_ok (by decide +kernel)
theorem sd_j_1 : decode prog_19_method_80_code 1 = .ok (.invokevirtual 492, 3) := mj_dec_ok (by decide +kernel)
theorem sd_j_4 : decode prog_19_method_80_code 4 = .ok (.ifCond .eq 19, 3) := mj_dec_ok (by decide +kernel)
theorem sd_j_7 : decode prog_19_method_80_code 7 = .ok (.aload_n 0, 1) := mj_dec_ok (by decide +kernel)
theorem sd_j_8 : decode prog_19_method_80_code 8 = .ok (.getfield 9, 3) := mj_dec_ok (by decide +kernel)
theorem sd_j_11 : decode prog_19_method_80_code 11 = .ok (.iload_n 1, 1) := mj_dec_ok (by decide +kernel)
theorem sd_j_12 : decode prog_19_method_80_code 12 = .ok (.iload_n 2, 1) := mj_dec_ok (by decide +kernel)
theorem sd_j_13 : decode prog_19_method_80_code 13 = .ok (.aload_n 0, 1) := mj_dec_ok (by decide +kernel)
theorem sd_j_14 : decode prog_19_method_80_code 14 = .ok (.invokevirtual 505, 3) := mj_dec_ok (by decide +kernel)
theorem sd_j_17 : decode prog_19_method_80_code 17 = .ok (.invokestatic 637, 3) := mj_dec_ok (by decide +kernel)
theorem sd_j_20 : decode prog_19_method_80_code 20 = .ok (.goto 16, 3) := mj_dec_ok (by decide +kernel)
theorem sd_j_36 : decode prog_19_method_80_code 36 = .ok (.ireturn, 1) := mj_dec_ok (by decide +kernel)
theorem sd_i_0 : decode prog_19_method_79_code 0 = .ok (.aload_n 0, 1) := mj_dec_ok (by decide +kernel)
theorem sd_i_1 : decode prog_19_method_79_code 1 = .ok (.iload_n 1, 1) := mj_dec_ok (by decide +kernel)
theorem sd_i_2 : decode prog_19_method_79_code 2 = .ok (.iconst 0, 1) := mj_dec_ok (by decide +kernel)
theorem sd_i_3 : decode prog_19_method_79_code 3 = .ok (.invokevirtual 633, 3) := mj_dec_ok (by decide +kernel)
theorem sd_i_6 : decode prog_19_method_79_code 6 = .ok (.ireturn, 1) := mj_dec_ok (by decide +kernel)
theorem sd_s_0 : decode prog_10_method_13_code 0 = .ok (.iload_n 0, 1) := mj_dec_ok (by decide +kernel)
theorem sd_s_1 : decode prog_10_method_13_code 1 = .ok (.ifCond .ge 5, 3) := mj_dec_ok (by decide +kernel)
theorem sd_s_4 : decode prog_10_method_13_code 4 = .ok (.iconst 0, 1) := mj_dec_ok (by decide +kernel)
theorem sd_s_5 : decode prog_10_method_13_code 5 = .ok (.ireturn, 1) := mj_dec_ok (by decide +kernel)
theorem sd_s_6 : decode prog_10_method_13_code 6 = .ok (.ldc 108, 2) := mj_dec_ok (by decide +kernel)
theorem sd_s_8 : decode prog_10_method_13_code 8 = .ok (.iload_n 0, 1) := mj_dec_ok (by decide +kernel)
theorem sd_s_9 : decode prog_10_method_13_code 9 = .ok (.i2c, 1) := mj_dec_ok (by decide +kernel)
theorem sd_s_10 : decode prog_10_method_13_code 10 = .ok (.invokevirtual 110, 3) := mj_dec_ok (by decide +kernel)
theorem sd_s_13 : decode prog_10_method_13_code 13 = .ok (.ifCond .lt 5, 3) := mj_dec_ok (by decide +kernel)
theorem sd_s_16 : decode prog_10_method_13_code 16 = .ok (.iconst 5, 1) := mj_dec_ok (by decide +kernel)
theorem sd_s_17 : decode prog_10_method_13_code 17 = .ok (.ireturn, 1) := mj_dec_ok (by decide +kernel)
theorem sd_s_18 : decode prog_10_method_13_code 18 = .ok (.iload_n 0, 1) := mj_dec_ok (by decide +kernel)
theorem sd_s_19 : decode prog_10_method_13_code 19 = .ok (.bipush 47, 2) := mj_dec_ok (by decide +kernel)
theorem sd_s_21 : decode prog_10_method_13_code 21 = .ok (.if_icmp .eq 15, 3) := mj_dec_ok (by decide +kernel)
theorem sd_s_24 : decode prog_10_method_13_code 24 = .ok (.iload_n 0, 1) := mj_dec_ok (by decide +kernel)
theorem sd_s_25 : decode prog_10_method_13_code 25 = .ok (.bipush 92, 2) := mj_dec_ok (by decide +kernel)
theorem sd_s_27 : decode prog_10_method_13_code 27 = .ok (.if_icmp .eq 9, 3) := mj_dec_ok (by decide +kernel)
theorem sd_s_30 : decode prog_10_method_13_code 30 = .ok (.iload_n 0, 1) := mj_dec_ok (by decide +kernel)
theorem sd_s_31 : decode prog_10_method_13_code 31 = .ok (.bipush 39, 2) := mj_dec_ok (by decide +kernel)
theorem sd_s_33 : decode prog_10_method_13_code 33 = .ok (.if_icmp .ne 6, 3) := mj_dec_ok (by decide +kernel)
theorem sd_s_36 : decode prog_10_method_13_code 36 = .ok (.bipush 6, 2) := mj_dec_ok (by decide +kernel)
theorem sd_s_38 : decode prog_10_method_13_code 38 = .ok (.ireturn, 1) := mj_dec_ok (by decide +kernel)
theorem sd_s_39 : decode prog_10_method_13_code 39 = .ok (.ldc 115, 2) := mj_dec_ok (by decide +kernel)
theorem sd_s_41 : decode prog_10_method_13_code 41 = .ok (.iload_n 0, 1) := mj_dec_ok (by decide +kernel)
theorem sd_s_42 : decode prog_10_method_13_code 42 = .ok (.i2c, 1) := mj_dec_ok (by decide +kernel)
theorem sd_s_43 : decode prog_10_method_13_code 43 = .ok (.invokevirtual 110, 3) := mj_dec_ok (by decide +kernel)
theorem sd_s_46 : decode prog_10_method_13_code 46 = .ok (.ifCond .lt 8, 3) := mj_dec_ok (by decide +kernel)
theorem sd_s_49 : decode prog_10_method_13_code 49 = .ok (.bipush 7, 2) := mj_dec_ok (by decide +kernel)
theorem sd_s_51 : decode prog_10_method_13_code 51 = .ok (.goto 4, 3) := mj_dec_ok (by decide +kernel)
theorem sd_s_54 : decode prog_10_method_13_code 54 = .ok (.iconst 0, 1) := mj_dec_ok (by decide +kernel)
theorem sd_s_55 : decode prog_10_method_13_code 55 = .ok (.ireturn, 1) := mj_dec_ok (by decide +kernel)
theorem sb_coder (l : Launch) {adK adV : Nat → Nat} {i : Nat} (hi : i < 2) (sz : Nat) : Met l sb_nC (sb_cC :: sb_ws) ({ frames := 0, cells := 0, slots := 0, locals := 0 } : Room) (sb_P adK adV [.ref (adK i)] sz) (sb_Q (.int 0)) 0 0 (fun q => sz ≤ q) := by
  refine Met.ofW (cc := prog_19_method_152_code) (maxL := 1) (ret := some .byte) (by decide +kernel) rfl ?_
  intro p e s m args below meth c s₁ B hml hv
  obtain ⟨rfl, rfl, hE⟩ := hv
  have hx := B.exec
  have hb := B.bytes
  have hrt := B.returns
  have hts := atoms_spec (ws := sb_cC :: sb_ws) B.pre
  have hsb : ∀ w ∈ sb_ws, w ∈ sb_cC :: sb_ws := fun w h => List.mem_cons_of_mem _ h
  have hown : s.vm.findClass "java/lang/String" = some m.cls := findClass_of_methodNamed B.named
  have hlocks := B.notSynchronized
  have hS0 : va_S (fun q => s.heap.size ≤ q) s.heap s.heap [] := va_S.rf
  have hAq : ∀ q : Nat, s.heap.size ≤ q → (fun q => s.heap.size ≤ q) q := fun q z => z
  have fix : CallFix p m c prog_19_method_152_code 1 s [Value.ref (adK i)].toArray (sb_cC :: sb_ws) "java/lang/String" := ⟨hx, hb, hml, hown, hts⟩
  have hl := lv_entry [Value.ref (adK i)] (n := 1) (Nat.le_of_ble_eq_true rfl)
  rw [lg_entry_eq]
  have hl0 : lv_has _ 1 (mj_ls [adK i, adV i] [(0, .ref 0)]) := hl
  refine va_gets hx hb hE.1 hS0 hown (hts (Cond.fieldLink "java/lang/String" 38 "java/lang/String" "COMPACT_STRINGS" "Z") (hsb _ (List.mem_append_left _ (by decide +kernel)))) (fun _ q => q) sd_c_0 ?_
  refine mj_br_W (ad := [adK i, adV i]) (S := [.int 1]) (S' := []) (t := 6) hx hb (by decide) sd_c_3 rfl ?_
  refine mj_loc_W (ad := [adK i, adV i]) (i := .aload_n 0) (L := [(0, .ref 0)]) (L' := [(0, .ref 0)]) (S := []) (S' := [.ref 0]) hx hb rfl sd_c_6 hl0 (fun ls1 hl1 => ?_)
  refine vk_getf hx hb (hE.2.1 i hi).2.1 hS0 hown (hts (Cond.fieldLink "java/lang/String" 15 "java/lang/String" "coder" "B") (hsb _ (List.mem_append_left _ (by decide +kernel)))) (fun _ q => q) sd_c_7 ?_
  refine mj_br_W (ad := [adK i, adV i]) (S := [.int 0]) (S' := [.int 0]) (t := 14) hx hb rfl sd_c_10 rfl ?_
  exact W.zret hx hb hrt ((by decide : narrow .byte (.int 0) = .int 0)) (fun t ht _ => ⟨rfl, Nat.le_trans hS0.1 (Nat.le_of_eq (congrArg Array.size ht.symm)), fun q hq => (congrArg (fun z : Heap => z[q]?) ht).trans (hS0.2.1 q hq (Nat.not_le.mpr hq))⟩) hS0.2.2 sd_c_14 hlocks
theorem sb_latin (l : Launch) {adK adV : Nat → Nat} {i : Nat} (hi : i < 2) (sz : Nat) : Met l sb_nL (sb_cL :: sb_ws) ({ frames := 0, cells := 0, slots := 0, locals := 0 } : Room) (sb_P adK adV [.ref (adK i)] sz) (sb_Q (.int 1)) 0 0 (fun q => sz ≤ q) := by
  refine Met.ofW (cc := prog_19_method_154_code) (maxL := 1) (ret := some .boolean) (by decide +kernel) rfl ?_
  intro p e s m args below meth c s₁ B hml hv
  obtain ⟨rfl, rfl, hE⟩ := hv
  have hx := B.exec
  have hb := B.bytes
  have hrt := B.returns
  have hts := atoms_spec (ws := sb_cL :: sb_ws) B.pre
  have hsb : ∀ w ∈ sb_ws, w ∈ sb_cL :: sb_ws := fun w h => List.mem_cons_of_mem _ h
  have hown : s.vm.findClass "java/lang/String" = some m.cls := findClass_of_methodNamed B.named
  have hlocks := B.notSynchronized
  have hS0 : va_S (fun q => s.heap.size ≤ q) s.heap s.heap [] := va_S.rf
  have hAq : ∀ q : Nat, s.heap.size ≤ q → (fun q => s.heap.size ≤ q) q := fun q z => z
  have fix : CallFix p m c prog_19_method_154_code 1 s [Value.ref (adK i)].toArray (sb_cL :: sb_ws) "java/lang/String" := ⟨hx, hb, hml, hown, hts⟩
  have hl := lv_entry [Value.ref (adK i)] (n := 1) (Nat.le_of_ble_eq_true rfl)
  rw [lg_entry_eq]
  have hl0 : lv_has _ 1 (mj_ls [adK i, adV i] [(0, .ref 0)]) := hl
  refine va_gets hx hb hE.1 hS0 hown (hts (Cond.fieldLink "java/lang/String" 38 "java/lang/String" "COMPACT_STRINGS" "Z") (hsb _ (List.mem_append_left _ (by decide +kernel)))) (fun _ q => q) sd_l_0 ?_
  refine mj_br_W (ad := [adK i, adV i]) (S := [.int 1]) (S' := []) (t := 6) hx hb (by decide) sd_l_3 rfl ?_
  refine mj_loc_W (ad := [adK i, adV i]) (i := .aload_n 0) (L := [(0, .ref 0)]) (L' := [(0, .ref 0)]) (S := []) (S' := [.ref 0]) hx hb rfl sd_l_6 hl0 (fun ls1 hl1 => ?_)
  refine vk_getf hx hb (hE.2.1 i hi).2.1 hS0 hown (hts (Cond.fieldLink "java/lang/String" 15 "java/lang/String" "coder" "B") (hsb _ (List.mem_append_left _ (by decide +kernel)))) (fun _ q => q) sd_l_7 ?_
  refine mj_br_W (ad := [adK i, adV i]) (S := [.int 0]) (S' := []) (t := 13) hx hb (by decide) sd_l_10 rfl ?_
  refine mj_alu_W (ad := [adK i, adV i]) (i := .iconst 1) (S := []) (S' := [.int 1]) hx hb rfl sd_l_13 ?_
  refine mj_br_W (ad := [adK i, adV i]) (S := [.int 1]) (S' := [.int 1]) (t := 18) hx hb rfl sd_l_14 rfl ?_
  exact W.zret hx hb hrt ((by decide : narrow .boolean (.int 1) = .int 1)) (fun t ht _ => ⟨rfl, Nat.le_trans hS0.1 (Nat.le_of_eq (congrArg Array.size ht.symm)), fun q hq => (congrArg (fun z : Heap => z[q]?) ht).trans (hS0.2.1 q hq (Nat.not_le.mpr hq))⟩) hS0.2.2 sd_l_18 hlocks
theorem sb_length (l : Launch) {adK adV : Nat → Nat} {i : Nat} (hi : i < 2) (sz : Nat) : Met l sb_nN (sb_cN :: sb_ws) ({ frames := 1, cells := 0, slots := 0, locals := 20 } : Room) (sb_P adK adV [.ref (adK i)] sz) (sb_Q (.int (Int32.ofNat (sb_len i)))) 0 0 (fun q => sz ≤ q) := by
  refine Met.ofW (cc := prog_19_method_54_code) (maxL := 1) (ret := some .int) (by decide +kernel) rfl ?_
  intro p e s m args below meth c s₁ B hml hv
  obtain ⟨rfl, rfl, hE⟩ := hv
  have hx := B.exec
  have hb := B.bytes
  have hrt := B.returns
  have hts := atoms_spec (ws := sb_cN :: sb_ws) B.pre
  have hsb : ∀ w ∈ sb_ws, w ∈ sb_cN :: sb_ws := fun w h => List.mem_cons_of_mem _ h
  have hown : s.vm.findClass "java/lang/String" = some m.cls := findClass_of_methodNamed B.named
  have hlocks := B.notSynchronized
  have hS0 : va_S (fun q => s.heap.size ≤ q) s.heap s.heap [] := va_S.rf
  have hAq : ∀ q : Nat, s.heap.size ≤ q → (fun q => s.heap.size ≤ q) q := fun q z => z
  have fix : CallFix p m c prog_19_method_54_code 1 s [Value.ref (adK i)].toArray (sb_cN :: sb_ws) "java/lang/String" := ⟨hx, hb, hml, hown, hts⟩
  have hl := lv_entry [Value.ref (adK i)] (n := 1) (Nat.le_of_ble_eq_true rfl)
  rw [lg_entry_eq]
  have hl0 : lv_has _ 1 (mj_ls [adK i, adV i] [(0, .ref 0)]) := hl
  have hsh : Int32.ofNat (sb_len i) >>> ((0 : Int32) &&& 31) = Int32.ofNat (sb_len i) := (show ∀ i, i < 2 → Int32.ofNat (sb_len i) >>> ((0 : Int32) &&& 31) = Int32.ofNat (sb_len i) by decide +kernel) i hi
  refine mj_loc_W (ad := [adK i, adV i]) (i := .aload_n 0) (L := [(0, .ref 0)]) (L' := [(0, .ref 0)]) (S := []) (S' := [.ref 0]) hx hb rfl sd_n_0 hl0 (fun ls1 hl1 => ?_)
  refine vk_getf hx hb (hE.2.1 i hi).2.2.1 hS0 hown (hts (Cond.fieldLink "java/lang/String" 9 "java/lang/String" "value" "[B") (hsb _ (List.mem_append_left _ (by decide +kernel)))) (fun _ q => q) sd_n_1 ?_
  refine va_tlen hx hb (hE.2.1 i hi).2.2.2 hS0 (v := Int32.ofNat (sb_len i)) rfl sd_n_4 ?_
  refine mj_loc_W (ad := [adK i, adV i]) (i := .aload_n 0) (L := [(0, .ref 0)]) (L' := [(0, .ref 0)]) (S := [.int (Int32.ofNat (sb_len i))]) (S' := [.ref 0, .int (Int32.ofNat (sb_len i))]) hx hb rfl sd_n_5 hl1 (fun ls2 hl2 => ?_)
  refine sb_callV (i := i) (adK := adK) (adV := adV) (As := []) (rest := [.int (Int32.ofNat (sb_len i))]) (n := 0) fix hsb hi (fun sz => sb_coder l hi sz) rfl rfl (List.mem_append_left _ (by decide +kernel)) (List.mem_append_left _ (by decide +kernel)) (List.mem_append_left _ (by decide +kernel)) (List.mem_append_left _ (by decide +kernel)) (List.mem_append_left _ (by decide +kernel)) ⟨by decide +kernel, by decide +kernel, by decide +kernel⟩ ⟨by decide, by decide⟩ rfl hE hS0 hAq hl2.1 (Nat.le_of_ble_eq_true rfl) sd_n_6 (Nat.zero_le _) (Nat.zero_le _) (fun H1 locs1 hS1 => ?_)
  refine mj_alu_W (ad := [adK i, adV i]) (i := .ishr) (S := [.int 0, .int (Int32.ofNat (sb_len i))]) (S' := [.int (Int32.ofNat (sb_len i))]) hx hb (by show some [Value.int (Int32.ofNat (sb_len i) >>> ((0 : Int32) &&& 31))] = _; rw [hsh]) sd_n_9 ?_
  exact W.iret hx hb hrt (fun t ht _ => ⟨rfl, Nat.le_trans hS1.1 (Nat.le_of_eq (congrArg Array.size ht.symm)), fun q hq => (congrArg (fun z : Heap => z[q]?) ht).trans (hS1.2.1 q hq (Nat.not_le.mpr hq))⟩) hS1.2.2 sd_n_10 hlocks
/-- the mini program's indexOf on the constant's bytes, called -/
theorem sb_callX {p : Program} {l : Launch} {e : Env} {R : Room} {s : State} {m : MethodId} {args : Array Value} {below : List Frame} {meth : Method} {c : Code} {H : Heap} {locs : List Loc} {cells slots : Nat} {Q : State → Prop} {cc : ByteArray} {pc nL : Nat} {ls : Array Slot} {A : Nat → Prop} {adK adV : Nat → Nat} {Ts : List Cond} {i n : Nat} (fix : CallFix p m c cc nL s args Ts "java/lang/String") (hsb : ∀ w ∈ sb_ws, w ∈ Ts) (hi : i < 2) (hn : n < 256) (hE : sb_E adK adV A s s.heap) (hS : va_S A s.heap H locs) (hAq : ∀ q, s.heap.size ≤ q → A q) (hls : ls.size = nL) (hdg : decode cc pc = .ok (.invokestatic 637, 3)) (hRm : 3 ≤ R.frames ∧ 120 ≤ R.locals) (hcc : cells ≤ R.cells) (hss : slots ≤ R.slots)
    (kk : ∀ H' locs', va_S A s.heap H' locs' → W p l e R s m args below meth c H' locs' cells slots Q (F0 m (pc + 3) ls [.int (sb_ix i n)])) : W p l e R s m args below meth c H locs cells slots Q (F0 m pc ls [.int (Int32.ofNat (sb_len i)), .int 0, .int (Int32.ofNat n), .ref (adV i)]) := by
  obtain ⟨hx, hb, hml, hown, hts⟩ := id fix
  obtain ⟨N0, hN0⟩ := sb_ic i 0 hi hn
  have hrun := hN0 N0 (Nat.le_refl _)
  have hsT : ∀ w ∈ sb_Tg, w ∈ Ts := fun w h => hsb w (List.mem_append_right _ h)
  have hD : ∃ D : va_G, D = (fun _ => 0, fun _ _ => 0) := ⟨_, rfl⟩
  obtain ⟨D, -⟩ := hD
  have hsnd := mj_call_sound (l := l) (Ns := []) (Zs := sb_Z) (D := D) (tys := []) (xt := sb_x i) (sb_okP (fun _ => adV i)) rfl (fun z => absurd z sb_no7) 2 N0 0 _ _ sb_h _ _ rfl hrun (fun v hv k hk => by
    rcases List.mem_cons.mp hv with rfl | hv
    · cases hk; exact Nat.zero_lt_one
    rcases List.mem_cons.mp hv with rfl | hv
    · cases hk
    rcases List.mem_cons.mp hv with rfl | hv
    · cases hk
    rcases List.mem_cons.mp hv with rfl | hv
    · cases hk
    · cases hv) [adV i] H.size (fun k hk => by obtain rfl : k = 0 := by omega
                                               rfl)
  have hcode : Cond.code sb_nX prog_20_method_22_code 4 (some .int) ∈ sb_Tg := by decide +kernel
  have hgi : GoodIn Ts (Cond.code sb_nX prog_20_method_22_code 4 (some .int) :: sb_Tg) := fun w hw => (List.mem_cons.mp hw).elim (fun z => by rw [z]; exact ⟨hsT _ hcode, good_of_word (List.all_eq_true.mp sb_gw _ hcode)⟩) (fun z => ⟨hsT _ z, good_of_word (List.all_eq_true.mp sb_gw _ z)⟩)
  have cw := callB_of (R := R) (rm := mj_rm sb_Z 2 sb_h sb_h) (ws := Cond.code sb_nX prog_20_method_22_code 4 (some .int) :: sb_Tg) (index := 637) (own := "java/lang/String") (y := sb_nX) 4 hts hgi rfl (mc := 0) (ms := 0) rfl rfl (hts _ (hsT _ (by decide +kernel))) (hts _ (hsb _ (List.mem_append_left _ (by decide +kernel)))) ⟨by decide +kernel, by decide +kernel, by decide +kernel⟩ ⟨hRm.1, Nat.le_trans (by decide) hRm.2⟩
  have hstat := hts (Cond.static sb_nX) (hsT _ (by decide +kernel))
  have hp : PreS s H (mj_Pc [] sb_Z (sb_x i) (fun _ => adV i) D (mj_cl []) [] 1 [adV i] [.ref 0, .int (Int32.ofNat n), .int 0, .int (Int32.ofNat (sb_len i))] sb_h H.size) [.ref (adV i), .int (Int32.ofNat n), .int 0, .int (Int32.ofNat (sb_len i))] := by
    refine ⟨mj_blind _ _ _ _ _ _ _ _ _ _ _ _, fun U hU hW => ⟨rfl, by rw [hU], ⟨fun ci q h => by simp [mj_cl] at h, fun k q h => by simp at h⟩, (fun w h => by cases h), ⟨(fun z h => by cases h), (fun r h => by cases h), fun i h => absurd h (Nat.not_lt_zero i), fun i j h => absurd h (Nat.not_lt_zero i)⟩, fun k ty n' f hk => ?_, ?_⟩⟩
    · unfold sb_x at hk
      split at hk
      · cases hk
        refine ⟨Nat.zero_lt_one, ?_⟩
        rw [hU]
        have hT := (((hE.2.1 i hi).2.2.2.kept hS.2.1).moved hW.alike).narrow (B := mj_A [] [adV i] sb_h 1 H.size) (fun q z => by
          rcases z with ⟨k, e, z⟩ | z
          · simp [mj_W, sb_h] at z
          · exact hAq q (Nat.le_trans hS.1 z))
        exact hT
      · cases hk
    · rw [hU]
      refine ⟨rfl, Nat.le_refl _, fun e he => by rw [List.mem_singleton.mp he]; trivial, fun k q hq => by simp [mj_W, sb_h] at hq, ⟨fun i j p q hp => by simp [mj_W, sb_h] at hp, fun k q hq => by simp [mj_W, sb_h] at hq⟩, va_S.rf, trivial⟩
  have hfree : ∀ q, mj_A [] [adV i] sb_h 1 H.size q → H.size ≤ q := fun q z => by
    rcases z with ⟨k, e, z⟩ | z
    · simp [mj_W, sb_h] at z
    · exact z
  intro T hT X
  obtain ⟨v', st₀, t, T', L, h0, X', hL, e1, e2, ⟨b, hv, h1⟩, st⟩ := va_runS fix hsnd ⟨cw, hstat⟩ hp rfl rfl hls rfl (rest := []) (lv_room (by decide)) hdg ⟨hcc, hss⟩ T hT X
  have hv2 : v' = some (.int (sb_ix i n)) := by injection hv
  subst hv2
  have hS1 := h1.2.2.2.2.2.1
  have hS' : va_S A s.heap T'.heap (locs ++ L) := ⟨Nat.le_trans hS.1 (by rw [e1, ← h0]; exact hS1.1), fun a ha hn => by
      rw [e1, hS1.2.1 a (by rw [h0]; exact Nat.lt_of_lt_of_le ha hS.1) (fun z => absurd (hfree a z) (Nat.not_le.mpr (Nat.lt_of_lt_of_le ha hS.1))), h0]
      exact hS.2.1 a ha hn, fun q hq => (List.mem_append.mp hq).elim (hS.2.2 q) (fun z => hAq _ (Nat.le_trans hS.1 (hfree _ (hL q z))))⟩
  obtain ⟨t2, a1, b1⟩ := kk T'.heap (locs ++ L) hS' T' rfl X'
  exact ⟨t2, st t2 a1, b1⟩
theorem sb_index2 (l : Launch) {adK adV : Nat → Nat} {i n : Nat} (hi : i < 2) (hn : n < 256) (sz : Nat) : Met l sb_nI2 (sb_cI2 :: sb_ws) ({ frames := 3, cells := 0, slots := 0, locals := 120 } : Room) (sb_P adK adV [.ref (adK i), .int (Int32.ofNat n), .int 0] sz) (sb_Q (.int (sb_ix i n))) 0 0 (fun q => sz ≤ q) := by
  refine Met.ofW (cc := prog_19_method_80_code) (maxL := 3) (ret := some .int) (by decide +kernel) rfl ?_
  intro p e s m args below meth c s₁ B hml hv
  obtain ⟨rfl, rfl, hE⟩ := hv
  have hx := B.exec
  have hb := B.bytes
  have hrt := B.returns
  have hts := atoms_spec (ws := sb_cI2 :: sb_ws) B.pre
  have hsb : ∀ w ∈ sb_ws, w ∈ sb_cI2 :: sb_ws := fun w h => List.mem_cons_of_mem _ h
  have hown : s.vm.findClass "java/lang/String" = some m.cls := findClass_of_methodNamed B.named
  have hlocks := B.notSynchronized
  have hS0 : va_S (fun q => s.heap.size ≤ q) s.heap s.heap [] := va_S.rf
  have hAq : ∀ q : Nat, s.heap.size ≤ q → (fun q => s.heap.size ≤ q) q := fun q z => z
  have fix : CallFix p m c prog_19_method_80_code 3 s [Value.ref (adK i), .int (Int32.ofNat n), .int 0].toArray (sb_cI2 :: sb_ws) "java/lang/String" := ⟨hx, hb, hml, hown, hts⟩
  have hl := lv_entry [Value.ref (adK i), .int (Int32.ofNat n), .int 0] (n := 3) (Nat.le_of_ble_eq_true rfl)
  rw [lg_entry_eq]
  have hl0 : lv_has _ 3 (mj_ls [adK i, adV i] [(0, .ref 0), (1, .int (Int32.ofNat n)), (2, .int 0)]) := hl
  refine mj_loc_W (ad := [adK i, adV i]) (i := .aload_n 0) (L := [(0, .ref 0), (1, .int (Int32.ofNat n)), (2, .int 0)]) (L' := [(0, .ref 0), (1, .int (Int32.ofNat n)), (2, .int 0)]) (S := []) (S' := [.ref 0]) hx hb rfl sd_j_0 hl0 (fun ls1 hl1 => ?_)
  refine sb_callV (i := i) (adK := adK) (adV := adV) (As := []) (rest := []) (n := 0) fix hsb hi (fun sz => sb_latin l hi sz) rfl rfl (List.mem_append_left _ (by decide +kernel)) (List.mem_append_left _ (by decide +kernel)) (List.mem_append_left _ (by decide +kernel)) (List.mem_append_left _ (by decide +kernel)) (List.mem_append_left _ (by decide +kernel)) ⟨by decide +kernel, by decide +kernel, by decide +kernel⟩ ⟨by decide, by decide⟩ rfl hE hS0 hAq hl1.1 (Nat.le_of_ble_eq_true rfl) sd_j_1 (Nat.zero_le _) (Nat.zero_le _) (fun H1 locs1 hS1 => ?_)
  refine mj_br_W (ad := [adK i, adV i]) (S := [.int 1]) (S' := []) (t := 7) hx hb (by decide) sd_j_4 rfl ?_
  refine mj_loc_W (ad := [adK i, adV i]) (i := .aload_n 0) (L := [(0, .ref 0), (1, .int (Int32.ofNat n)), (2, .int 0)]) (L' := [(0, .ref 0), (1, .int (Int32.ofNat n)), (2, .int 0)]) (S := []) (S' := [.ref 0]) hx hb rfl sd_j_7 hl1 (fun ls2 hl2 => ?_)
  refine vk_getf hx hb (hE.2.1 i hi).2.2.1 hS1 hown (hts (Cond.fieldLink "java/lang/String" 9 "java/lang/String" "value" "[B") (hsb _ (List.mem_append_left _ (by decide +kernel)))) (fun _ q => q) sd_j_8 ?_
  refine mj_loc_W (ad := [adK i, adV i]) (i := .iload_n 1) (L := [(0, .ref 0), (1, .int (Int32.ofNat n)), (2, .int 0)]) (L' := [(0, .ref 0), (1, .int (Int32.ofNat n)), (2, .int 0)]) (S := [.ref 1]) (S' := [.int (Int32.ofNat n), .ref 1]) hx hb rfl sd_j_11 hl2 (fun ls3 hl3 => ?_)
  refine mj_loc_W (ad := [adK i, adV i]) (i := .iload_n 2) (L := [(0, .ref 0), (1, .int (Int32.ofNat n)), (2, .int 0)]) (L' := [(0, .ref 0), (1, .int (Int32.ofNat n)), (2, .int 0)]) (S := [.int (Int32.ofNat n), .ref 1]) (S' := [.int 0, .int (Int32.ofNat n), .ref 1]) hx hb rfl sd_j_12 hl3 (fun ls4 hl4 => ?_)
  refine mj_loc_W (ad := [adK i, adV i]) (i := .aload_n 0) (L := [(0, .ref 0), (1, .int (Int32.ofNat n)), (2, .int 0)]) (L' := [(0, .ref 0), (1, .int (Int32.ofNat n)), (2, .int 0)]) (S := [.int 0, .int (Int32.ofNat n), .ref 1]) (S' := [.ref 0, .int 0, .int (Int32.ofNat n), .ref 1]) hx hb rfl sd_j_13 hl4 (fun ls5 hl5 => ?_)
  refine sb_callV (i := i) (adK := adK) (adV := adV) (As := []) (rest := [.int 0, .int (Int32.ofNat n), .ref (adV i)]) (n := 0) fix hsb hi (fun sz => sb_length l hi sz) rfl rfl (List.mem_append_left _ (by decide +kernel)) (List.mem_append_left _ (by decide +kernel)) (List.mem_append_left _ (by decide +kernel)) (List.mem_append_left _ (by decide +kernel)) (List.mem_append_left _ (by decide +kernel)) ⟨by decide +kernel, by decide +kernel, by decide +kernel⟩ ⟨by decide, by decide⟩ rfl hE hS1 hAq hl5.1 (Nat.le_of_ble_eq_true rfl) sd_j_14 (Nat.zero_le _) (Nat.zero_le _) (fun H2 locs2 hS2 => ?_)
  refine sb_callX fix hsb hi hn hE hS2 hAq hl5.1 sd_j_17 ⟨by decide, by decide⟩ (Nat.zero_le _) (Nat.zero_le _) (fun H3 locs3 hS3 => ?_)
  refine mj_br_W (ad := [adK i, adV i]) (S := [.int (sb_ix i n)]) (S' := [.int (sb_ix i n)]) (t := 36) hx hb rfl sd_j_20 rfl ?_
  exact W.iret hx hb hrt (fun t ht _ => ⟨rfl, Nat.le_trans hS3.1 (Nat.le_of_eq (congrArg Array.size ht.symm)), fun q hq => (congrArg (fun z : Heap => z[q]?) ht).trans (hS3.2.1 q hq (Nat.not_le.mpr hq))⟩) hS3.2.2 sd_j_36 hlocks
theorem sb_index1 (l : Launch) {adK adV : Nat → Nat} {i n : Nat} (hi : i < 2) (hn : n < 256) (sz : Nat) : Met l sb_nI1 (sb_cI1 :: sb_ws) ({ frames := 4, cells := 0, slots := 0, locals := 160 } : Room) (sb_P adK adV [.ref (adK i), .int (Int32.ofNat n)] sz) (sb_Q (.int (sb_ix i n))) 0 0 (fun q => sz ≤ q) := by
  refine Met.ofW (cc := prog_19_method_79_code) (maxL := 2) (ret := some .int) (by decide +kernel) rfl ?_
  intro p e s m args below meth c s₁ B hml hv
  obtain ⟨rfl, rfl, hE⟩ := hv
  have hx := B.exec
  have hb := B.bytes
  have hrt := B.returns
  have hts := atoms_spec (ws := sb_cI1 :: sb_ws) B.pre
  have hsb : ∀ w ∈ sb_ws, w ∈ sb_cI1 :: sb_ws := fun w h => List.mem_cons_of_mem _ h
  have hown : s.vm.findClass "java/lang/String" = some m.cls := findClass_of_methodNamed B.named
  have hlocks := B.notSynchronized
  have hS0 : va_S (fun q => s.heap.size ≤ q) s.heap s.heap [] := va_S.rf
  have hAq : ∀ q : Nat, s.heap.size ≤ q → (fun q => s.heap.size ≤ q) q := fun q z => z
  have fix : CallFix p m c prog_19_method_79_code 2 s [Value.ref (adK i), .int (Int32.ofNat n)].toArray (sb_cI1 :: sb_ws) "java/lang/String" := ⟨hx, hb, hml, hown, hts⟩
  have hl := lv_entry [Value.ref (adK i), .int (Int32.ofNat n)] (n := 2) (Nat.le_of_ble_eq_true rfl)
  rw [lg_entry_eq]
  have hl0 : lv_has _ 2 (mj_ls [adK i, adV i] [(0, .ref 0), (1, .int (Int32.ofNat n))]) := hl
  refine mj_loc_W (ad := [adK i, adV i]) (i := .aload_n 0) (L := [(0, .ref 0), (1, .int (Int32.ofNat n))]) (L' := [(0, .ref 0), (1, .int (Int32.ofNat n))]) (S := []) (S' := [.ref 0]) hx hb rfl sd_i_0 hl0 (fun ls1 hl1 => ?_)
  refine mj_loc_W (ad := [adK i, adV i]) (i := .iload_n 1) (L := [(0, .ref 0), (1, .int (Int32.ofNat n))]) (L' := [(0, .ref 0), (1, .int (Int32.ofNat n))]) (S := [.ref 0]) (S' := [.int (Int32.ofNat n), .ref 0]) hx hb rfl sd_i_1 hl1 (fun ls2 hl2 => ?_)
  refine mj_alu_W (ad := [adK i, adV i]) (i := .iconst 0) (S := [.int (Int32.ofNat n), .ref 0]) (S' := [.int 0, .int (Int32.ofNat n), .ref 0]) hx hb rfl sd_i_2 ?_
  refine sb_callV (i := i) (adK := adK) (adV := adV) (As := [.int (Int32.ofNat n), .int 0]) (rest := []) (n := 2) fix hsb hi (fun sz => sb_index2 l hi hn sz) rfl rfl (List.mem_append_left _ (by decide +kernel)) (List.mem_append_left _ (by decide +kernel)) (List.mem_append_left _ (by decide +kernel)) (List.mem_append_left _ (by decide +kernel)) (List.mem_append_left _ (by decide +kernel)) ⟨by decide +kernel, by decide +kernel, by decide +kernel⟩ ⟨by decide, by decide⟩ rfl hE hS0 hAq hl2.1 (Nat.le_of_ble_eq_true rfl) sd_i_3 (Nat.zero_le _) (Nat.zero_le _) (fun H1 locs1 hS1 => ?_)
  exact W.iret hx hb hrt (fun t ht _ => ⟨rfl, Nat.le_trans hS1.1 (Nat.le_of_eq (congrArg Array.size ht.symm)), fun q hq => (congrArg (fun z : Heap => z[q]?) ht).trans (hS1.2.1 q hq (Nat.not_le.mpr hq))⟩) hS1.2.2 sd_i_6 hlocks
