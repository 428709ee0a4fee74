/-! mj: calls of this program -/
/-- a call of this program -/
abbrev pgC (xt : mj_X) (d : Nat) : Nat → List Value → mj_H → Option Value → mj_H → Prop := mjC (fun N => mj_call (mj_mmof pg_ms) (mj_TTof pg_TL) xt pg_tl 2 d N)
