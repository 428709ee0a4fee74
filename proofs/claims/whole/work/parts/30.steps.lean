/-! mj: one step of a run at a time -/
section MS
variable {call : Nat → List Value → mj_H → mj_R} {T : mj_T} {mt : mj_C} {xt : mj_X} {tl : List (FieldType × Nat)} {c0 nL dep : Nat} {ini : Bool} {ret : Option FieldType} {code : Nat → Option (Instr × Nat)}
variable {n pc len pc' : Nat} {L L' : mj_L} {S S' : List Value} {h h' : mj_H} {i : Instr}
theorem ms0 (hc : code pc = some (i, len)) (hs : mj_alu i S = some S') (hk : mj_kd i = 0) (hl : mj_lenOk i len = true) (hp : pc + len = pc') : mj_run call T mt xt tl c0 nL dep ini ret code (n + 1) pc L S h = mj_run call T mt xt tl c0 nL dep ini ret code n pc' L S' h := by
  subst hp
  conv => lhs; unfold mj_run
  simp only [hc, hl, hk, hs, if_true]
theorem ms1 (hc : code pc = some (i, len)) (hs : mj_loc nL i L S = some (L', S')) (hk : mj_kd i = 1) (hl : mj_lenOk i len = true) (hp : pc + len = pc') : mj_run call T mt xt tl c0 nL dep ini ret code (n + 1) pc L S h = mj_run call T mt xt tl c0 nL dep ini ret code n pc' L' S' h := by
  subst hp
  conv => lhs; unfold mj_run
  simp only [hc, hl, hk, hs, if_true]
theorem ms2 (hc : code pc = some (i, len)) (hs : mj_br pc i S = some (pc', S')) (hk : mj_kd i = 2) (hl : mj_lenOk i len = true) : mj_run call T mt xt tl c0 nL dep ini ret code (n + 1) pc L S h = mj_run call T mt xt tl c0 nL dep ini ret code n pc' L S' h := by
  conv => lhs; unfold mj_run
  simp only [hc, hl, hk, hs, if_true]
theorem ms3 (hc : code pc = some (i, len)) (hs : mj_hp T xt tl c0 ini i S h = some (S', h')) (hk : mj_kd i = 3) (hl : mj_lenOk i len = true) (hp : pc + len = pc') : mj_run call T mt xt tl c0 nL dep ini ret code (n + 1) pc L S h = mj_run call T mt xt tl c0 nL dep ini ret code n pc' L S' h' := by
  subst hp
  conv => lhs; unfold mj_run
  simp only [hc, hl, hk, hs, if_true]
theorem ms4 {k : Nat} {As rest : List Value} {r : Option Value} (hc : code pc = some (i, len)) (hpn : mj_prim mt tl c0 i S h = none) (hs : mj_inv mt c0 i S h = some (k + 1, As, rest)) (hcl : call k As h = some (r, h')) (hk : mj_kd i = 4) (hl : mj_lenOk i len = true) (hp : pc + 3 = pc') : mj_run call T mt xt tl c0 nL dep ini ret code (n + 1) pc L S h = mj_run call T mt xt tl c0 nL dep ini ret code n pc' L (r.toList ++ rest) h' := by
  subst hp
  conv => lhs; unfold mj_run
  simp only [hc, hl, hk, hpn, hs, hcl, if_true]
theorem ms4o {As rest : List Value} (hc : code pc = some (i, len)) (hpn : mj_prim mt tl c0 i S h = none) (hs : mj_inv mt c0 i S h = some (0, As, rest)) (hd : 0 < dep) (hk : mj_kd i = 4) (hl : mj_lenOk i len = true) (hp : pc + 3 = pc') : mj_run call T mt xt tl c0 nL dep ini ret code (n + 1) pc L S h = mj_run call T mt xt tl c0 nL dep ini ret code n pc' L rest h := by
  subst hp
  conv => lhs; unfold mj_run
  simp only [hc, hl, hk, hpn, hs, hd, if_true]
theorem ms4p (hc : code pc = some (i, len)) (hs : mj_prim mt tl c0 i S h = some (S', h')) (hd : 0 < dep) (hk : mj_kd i = 4) (hl : mj_lenOk i len = true) (hp : pc + 3 = pc') : mj_run call T mt xt tl c0 nL dep ini ret code (n + 1) pc L S h = mj_run call T mt xt tl c0 nL dep ini ret code n pc' L S' h' := by
  subst hp
  conv => lhs; unfold mj_run
  simp only [hc, hl, hk, hs, hd, if_true]
theorem ms5 {r : Option Value} (hc : code pc = some (i, len)) (hs : mj_ret ret i S = some r) (hk : mj_kd i = 5) (hl : mj_lenOk i len = true) : mj_run call T mt xt tl c0 nL dep ini ret code (n + 1) pc L S h = some (r, h) := by
  conv => lhs; unfold mj_run
  simp only [hc, hl, hk, hs, if_true, Option.map_some]
end MS
/-- a call, out of its body's run -/
theorem ms_call {mm : Nat → Option mj_M} {TT : Nat → mj_T × mj_C} {xt : mj_X} {tl : List (FieldType × Nat)} {c0 d N k : Nat} {As : List Value} {h : mj_H} {M : mj_M} {r : mj_R} (hM : mm k = some M) (hl : (lg_sl As).length ≤ M.1.2.2.1) (hr : mj_run (mj_call mm TT xt tl c0 d N) (TT M.2.1).1 (TT M.2.1).2 xt tl c0 M.1.2.2.1 d M.2.2.1 M.1.2.2.2 M.2.2.2 N 0 (lv_args 0 As) [] h = r) : mj_call mm TT xt tl c0 (d + 1) N k As h = r := by
  conv => lhs; unfold mj_call
  rw [hM]
  dsimp only
  rw [if_pos hl]
  exact hr
