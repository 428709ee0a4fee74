/-! mj: runs that come to an end, however large the bound on steps is; one row a step -/
/-- from here the method comes to r and h', given steps enough (call: what calls come to, by the bound) -/
def mjR (call : Nat → Nat → List Value → mj_H → mj_R) (T : mj_T) (mt : mj_C) (xt : mj_X) (tl : List (FieldType × Nat)) (c0 nL dep : Nat) (ini : Bool) (ret : Option FieldType) (code : Nat → Option (Instr × Nat)) (pc : Nat) (L : mj_L) (S : List Value) (h : mj_H) (r : Option Value) (h' : mj_H) : Prop :=
  ∃ N0, ∀ N n, N0 ≤ N → N0 ≤ n → mj_run (call N) T mt xt tl c0 nL dep ini ret code n pc L S h = some (r, h')
/-- a call comes to r and h' -/
def mjC (call : Nat → Nat → List Value → mj_H → mj_R) (k : Nat) (As : List Value) (h : mj_H) (r : Option Value) (h' : mj_H) : Prop := ∃ N0, ∀ N, N0 ≤ N → call N k As h = some (r, h')
section MS
variable {call : Nat → Nat → List Value → mj_H → mj_R} {T : mj_T} {mt : mj_C} {xt : mj_X} {tl : List (FieldType × Nat)} {c0 nL dep : Nat} {ini : Bool} {ret : Option FieldType} {code : Nat → Option (Instr × Nat)}
variable {pc len pc' : Nat} {L L' : mj_L} {S S' : List Value} {h h' h1 : mj_H} {i : Instr} {r : Option Value}
theorem ms_step (hs : ∀ N n, mj_run (call N) T mt xt tl c0 nL dep ini ret code (n + 1) pc L S h = mj_run (call N) T mt xt tl c0 nL dep ini ret code n pc' L' S' h1) (k : mjR call T mt xt tl c0 nL dep ini ret code pc' L' S' h1 r h') : mjR call T mt xt tl c0 nL dep ini ret code pc L S h r h' := by
  obtain ⟨N0, hk⟩ := k
  refine ⟨N0 + 1, fun N n h1 h2 => ?_⟩
  obtain ⟨n', rfl⟩ : ∃ n', n = n' + 1 := ⟨n - 1, by omega⟩
  rw [hs]
  exact hk N n' (by omega) (by omega)
theorem ms0 (hc : code pc = some (i, len)) (hs : mj_alu i S = some S') (hk : mj_kd i = 0) (hl : mj_lenOk i len = true) (hp : pc + len = pc') (k : mjR call T mt xt tl c0 nL dep ini ret code pc' L S' h r h') : mjR call T mt xt tl c0 nL dep ini ret code pc L S h r h' := by
  refine ms_step (fun N n => ?_) k
  subst hp
  conv => lhs; unfold mj_run
  simp only [hc, hl, hk, hs, if_true]
theorem ms1 (hc : code pc = some (i, len)) (hs : mj_loc nL i L S = some (L', S')) (hk : mj_kd i = 1) (hl : mj_lenOk i len = true) (hp : pc + len = pc') (k : mjR call T mt xt tl c0 nL dep ini ret code pc' L' S' h r h') : mjR call T mt xt tl c0 nL dep ini ret code pc L S h r h' := by
  refine ms_step (fun N n => ?_) k
  subst hp
  conv => lhs; unfold mj_run
  simp only [hc, hl, hk, hs, if_true]
theorem ms2 (hc : code pc = some (i, len)) (hs : mj_br pc i S = some (pc', S')) (hk : mj_kd i = 2) (hl : mj_lenOk i len = true) (k : mjR call T mt xt tl c0 nL dep ini ret code pc' L S' h r h') : mjR call T mt xt tl c0 nL dep ini ret code pc L S h r h' := by
  refine ms_step (fun N n => ?_) k
  conv => lhs; unfold mj_run
  simp only [hc, hl, hk, hs, if_true]
theorem ms3 (hc : code pc = some (i, len)) (hs : mj_hp T xt tl c0 ini i S h = some (S', h1)) (hk : mj_kd i = 3) (hl : mj_lenOk i len = true) (hp : pc + len = pc') (k : mjR call T mt xt tl c0 nL dep ini ret code pc' L S' h1 r h') : mjR call T mt xt tl c0 nL dep ini ret code pc L S h r h' := by
  refine ms_step (fun N n => ?_) k
  subst hp
  conv => lhs; unfold mj_run
  simp only [hc, hl, hk, hs, if_true]
theorem ms4 {q : Nat} {As rest : List Value} {r1 : Option Value} (hc : code pc = some (i, len)) (hpn : mj_prim mt tl c0 i S h = none) (hs : mj_inv mt c0 i S h = some (q + 1, As, rest)) (hcl : mjC call q As h r1 h1) (hk : mj_kd i = 4) (hl : mj_lenOk i len = true) (hp : pc + 3 = pc') (k : mjR call T mt xt tl c0 nL dep ini ret code pc' L (r1.toList ++ rest) h1 r h') : mjR call T mt xt tl c0 nL dep ini ret code pc L S h r h' := by
  obtain ⟨N0, hk0⟩ := k
  obtain ⟨N1, hk1⟩ := hcl
  refine ⟨N0 + N1 + 1, fun N n g1 g2 => ?_⟩
  obtain ⟨n', rfl⟩ : ∃ n', n = n' + 1 := ⟨n - 1, by omega⟩
  subst hp
  conv => lhs; unfold mj_run
  simp only [hc, hl, hk, hpn, hs, hk1 N (by omega), if_true]
  exact hk0 N n' (by omega) (by omega)
theorem ms4o {As rest : List Value} (hc : code pc = some (i, len)) (hpn : mj_prim mt tl c0 i S h = none) (hs : mj_inv mt c0 i S h = some (0, As, rest)) (hd : 0 < dep) (hk : mj_kd i = 4) (hl : mj_lenOk i len = true) (hp : pc + 3 = pc') (k : mjR call T mt xt tl c0 nL dep ini ret code pc' L rest h r h') : mjR call T mt xt tl c0 nL dep ini ret code pc L S h r h' := by
  refine ms_step (fun N n => ?_) k
  subst hp
  conv => lhs; unfold mj_run
  simp only [hc, hl, hk, hpn, hs, hd, if_true]
theorem ms4p (hc : code pc = some (i, len)) (hs : mj_prim mt tl c0 i S h = some (S', h1)) (hd : 0 < dep) (hk : mj_kd i = 4) (hl : mj_lenOk i len = true) (hp : pc + 3 = pc') (k : mjR call T mt xt tl c0 nL dep ini ret code pc' L S' h1 r h') : mjR call T mt xt tl c0 nL dep ini ret code pc L S h r h' := by
  refine ms_step (fun N n => ?_) k
  subst hp
  conv => lhs; unfold mj_run
  simp only [hc, hl, hk, hs, hd, if_true]
theorem ms5 (hc : code pc = some (i, len)) (hs : mj_ret ret i S = some r) (hk : mj_kd i = 5) (hl : mj_lenOk i len = true) : mjR call T mt xt tl c0 nL dep ini ret code pc L S h r h := by
  refine ⟨1, fun N n _ h2 => ?_⟩
  obtain ⟨n', rfl⟩ : ∃ n', n = n' + 1 := ⟨n - 1, by omega⟩
  conv => lhs; unfold mj_run
  simp only [hc, hl, hk, hs, if_true, Option.map_some]
-- branches, by what is asked
theorem ms_1t {k : Jvm.ClassFile.Cond} {off : Int} {x : Int32} (hc : code pc = some (.ifCond k off, 3)) (ht : mj_to pc off = some pc') (hb : mj_cnd k x 0 = true) (q : mjR call T mt xt tl c0 nL dep ini ret code pc' L S h r h') : mjR call T mt xt tl c0 nL dep ini ret code pc L (.int x :: S) h r h' := by
  refine ms2 hc ?_ rfl rfl q
  unfold mj_br mj_if1
  simp only [ht, hb, Option.map_some, if_true]
theorem ms_1f {k : Jvm.ClassFile.Cond} {off : Int} {x : Int32} {t : Nat} (hc : code pc = some (.ifCond k off, 3)) (ht : mj_to pc off = some t) (hb : ¬ mj_cnd k x 0 = true) (hp : pc + 3 = pc') (q : mjR call T mt xt tl c0 nL dep ini ret code pc' L S h r h') : mjR call T mt xt tl c0 nL dep ini ret code pc L (.int x :: S) h r h' := by
  refine ms2 hc ?_ rfl rfl q
  unfold mj_br mj_if1
  simp only [ht, Option.map_some]
  rw [if_neg hb, hp]
theorem ms_2t {k : Jvm.ClassFile.Cond} {off : Int} {x y : Int32} (hc : code pc = some (.if_icmp k off, 3)) (ht : mj_to pc off = some pc') (hb : mj_cnd k x y = true) (q : mjR call T mt xt tl c0 nL dep ini ret code pc' L S h r h') : mjR call T mt xt tl c0 nL dep ini ret code pc L (.int y :: .int x :: S) h r h' := by
  refine ms2 hc ?_ rfl rfl q
  unfold mj_br mj_if2
  simp only [ht, hb, Option.map_some, if_true]
theorem ms_2f {k : Jvm.ClassFile.Cond} {off : Int} {x y : Int32} {t : Nat} (hc : code pc = some (.if_icmp k off, 3)) (ht : mj_to pc off = some t) (hb : ¬ mj_cnd k x y = true) (hp : pc + 3 = pc') (q : mjR call T mt xt tl c0 nL dep ini ret code pc' L S h r h') : mjR call T mt xt tl c0 nL dep ini ret code pc L (.int y :: .int x :: S) h r h' := by
  refine ms2 hc ?_ rfl rfl q
  unfold mj_br mj_if2
  simp only [ht, Option.map_some]
  rw [if_neg hb, hp]
theorem ms_1c {k : Jvm.ClassFile.Cond} {off : Int} {x : Int32} {t : Nat} (hc : code pc = some (.ifCond k off, 3)) (ht : mj_to pc off = some t) (hp : pc + 3 = pc') (kt : mj_cnd k x 0 = true → mjR call T mt xt tl c0 nL dep ini ret code t L S h r h') (kf : ¬ mj_cnd k x 0 = true → mjR call T mt xt tl c0 nL dep ini ret code pc' L S h r h') : mjR call T mt xt tl c0 nL dep ini ret code pc L (.int x :: S) h r h' := by
  by_cases hb : mj_cnd k x 0 = true
  · exact ms_1t hc ht hb (kt hb)
  · exact ms_1f hc ht hb hp (kf hb)
theorem ms_2c {k : Jvm.ClassFile.Cond} {off : Int} {x y : Int32} {t : Nat} (hc : code pc = some (.if_icmp k off, 3)) (ht : mj_to pc off = some t) (hp : pc + 3 = pc') (kt : mj_cnd k x y = true → mjR call T mt xt tl c0 nL dep ini ret code t L S h r h') (kf : ¬ mj_cnd k x y = true → mjR call T mt xt tl c0 nL dep ini ret code pc' L S h r h') : mjR call T mt xt tl c0 nL dep ini ret code pc L (.int y :: .int x :: S) h r h' := by
  by_cases hb : mj_cnd k x y = true
  · exact ms_2t hc ht hb (kt hb)
  · exact ms_2f hc ht hb hp (kf hb)
/-- an end, its answer told otherwise -/
theorem ms5e {r0 : Option Value} (hc : code pc = some (i, len)) (hs : mj_ret ret i S = some r0) (hk : mj_kd i = 5) (hl : mj_lenOk i len = true) (hr : r0 = r) (hh : h = h') : mjR call T mt xt tl c0 nL dep ini ret code pc L S h r h' := by
  subst hr
  subst hh
  exact ms5 hc hs hk hl
end MS
/-- a call, out of its body's run -/
theorem ms_call {mm : Nat → Option mj_M} {TT : Nat → mj_T × mj_C} {xt : mj_X} {tl : List (FieldType × Nat)} {c0 d k : Nat} {As : List Value} {h h' : mj_H} {M : mj_M} {r : Option Value} (hM : mm k = some M) (hl : (lg_sl As).length ≤ M.1.2.2.1) (hr : mjR (fun N => mj_call mm TT xt tl c0 d N) (TT M.2.1).1 (TT M.2.1).2 xt tl c0 M.1.2.2.1 d M.2.2.1 M.1.2.2.2 M.2.2.2 0 (lv_args 0 As) [] h r h') : mjC (fun N => mj_call mm TT xt tl c0 (d + 1) N) k As h r h' := by
  obtain ⟨N0, h0⟩ := hr
  refine ⟨N0, fun N hN => ?_⟩
  show mj_call mm TT xt tl c0 (d + 1) N k As h = some (r, h')
  conv => lhs; unfold mj_call
  rw [hM]
  dsimp only
  rw [if_pos hl]
  exact h0 N N hN hN
