/-! the Machine's run: Ops -/
/-- the Frame on top is a call's -/
def TF (h : mj_H) (dq : Nat) : Prop := ∀ e, dq = e + 1 → ∃ (fo fx fy : Value) (fn fm fb : Int), h[34 + e]? = some (cO 0 [ii 0, fo, fx, fy, ii fn, ii fm, ii fb])
theorem TF_MF {h h' : mj_H} {dq : Nat} (hl : 127 ≤ h.length) (hdq : dq ≤ 64) (x : MF dq h h') (ht : TF h dq) : TF h' dq := fun e he => by
  obtain ⟨fo, fx, fy, fn, fm, fb, z⟩ := ht e he
  refine ⟨fo, fx, fy, fn, fm, fb, ?_⟩
  rw [x.2 (34 + e) (by omega) (by unfold mcS scr; omega)]; exact z
section ops
variable {xt : mj_X} {f1 : Nat → Value} {d fi : Nat} {P : Option Value → mj_H → Prop} {A0 : Nat → Prop} {h0 : mj_H} {W0 : Nat} {EN : (Nat → Prop) → mj_H → Prop} {dq ca : Nat} {cp : Option Int} {b bx by_ : Option Nat} {T : Nat → Tok} {i k mk ln : Nat} {call : CF} {A : Nat → Prop} {h : mj_H} {t W st p : Nat} {sf : Nat → Option Nat} {c : Int} {F : Option VV → VV → Nat → DR}
theorem run_stp {pl ou lv : Int} {lf rt : Value} {tp : Int} {Q : mj_H → Prop} (hM : MH A h) (h16 : h[16]? = some (mcC tp (dq : Int) (ca : Int) ou (W : Int) 0 pl (.ref p) (oV bx) (oV by_) .null lv lf rt)) (hTF : TF h dq) (hdq : dq ≤ 64) (hst : st < 199999990) (hcall : pgN xt d 166 [.ref 16, .ref p] h Q) (k : ∀ h1, Q h1 → HD xt d fi (st + 1) h1 P) : HD xt d fi st h P := by
  cases dq with
  | zero => exact tn_step0 (by omega) h16 hcall k
  | succ e =>
    obtain ⟨fo, fx, fy, fn, fm, fb, hfr⟩ := hTF e rfl
    obtain ⟨⟨ff, f33, fff⟩, -⟩ := hM.2.2.2.1
    exact tn_step1 (fr := 34 + e) (by omega) h16 (by omega) f33 (fff e (by omega)) (by omega) hfr rfl hcall k
/-- only the Machine's own cell has changed -/
theorem MR_s16 {t' : Nat} {nw' nw : Option Nat} {c0 : mj_E} {pl ou lv : Int} {lf rt : Value} (hM : MH A h) (hB : BI A0 h0 W0 A h W 0) (h32 : h[32]? = some (cA 4 8192 sf)) (hcp : 0 < ca → cp = some ou) (hc0 : ca = 0 → cp = none) (h16 : h[16]? = some c0) (hsl : mj_sl1 (mcC (t' : Int) (dq : Int) (ca : Int) ou (W : Int) 0 pl (oV nw') (oV bx) (oV by_) .null lv lf rt) = mj_sl1 c0) : MR A0 h0 W0 A (h.set 16 (mcC (t' : Int) (dq : Int) (ca : Int) ou (W : Int) 0 pl (oV nw') (oV bx) (oV by_) .null lv lf rt)) t' dq ca cp W nw' bx by_ sf :=
  ⟨MH_s16 hM _, BI_s16 hB h16 hsl, by rw [List.getElem?_set_ne (by decide)]; exact h32, ⟨pl, ou, lv, lf, rt, List.getElem?_set_self (hl_lt h16), hcp⟩, hc0⟩
theorem MD_s16 {t' kk a q : Nat} {l nw' : Option Nat} {c0 : mj_E} {pl ou : Int} (hM : MH A h) (hB : BI A0 h0 W0 A h W 0) (h32 : h[32]? = some (cA 4 8192 sf)) (hcp : 0 < ca → cp = some ou) (hc0 : ca = 0 → cp = none) (h16 : h[16]? = some c0) (hsl : mj_sl1 (mcC (t' : Int) (dq : Int) (ca : Int) ou (W : Int) 0 pl (oV nw') (oV bx) (oV by_) (.ref a) (kk : Int) (oV l) (.ref q)) = mj_sl1 c0) : MD A0 h0 W0 A (h.set 16 (mcC (t' : Int) (dq : Int) (ca : Int) ou (W : Int) 0 pl (oV nw') (oV bx) (oV by_) (.ref a) (kk : Int) (oV l) (.ref q))) t' dq ca cp W 0 nw' bx by_ sf a kk l q :=
  ⟨MH_s16 hM _, BI_s16 hB h16 hsl, by rw [List.getElem?_set_ne (by decide)]; exact h32, ⟨pl, ou, List.getElem?_set_self (hl_lt h16), hcp⟩, hc0⟩
theorem n16A (hM : MH A h) : ¬ A 16 := fun z => by have := hM.2.1 16 z; omega
theorem gv_s16 {q : Nat} {v : VV} {z : mj_E} (hM : MH A h) (hv : gv A h q v) : gv A (h.set 16 z) q v := ⟨cv_set (n16A hM) hv.1, hv.2⟩
theorem fz_s16 {q : Nat} {y z : mj_E} (hM : MH A h) (hv : fzC A h q y) : fzC A (h.set 16 z) q y := ⟨hv.1, hv.2.1, by rw [List.getElem?_set_ne (fun e => n16A hM (by rw [e]; exact hv.2.1))]; exact hv.2.2⟩
theorem EN_s16 {z : mj_E} (hEk : ENk EN) (hM : MH A h) (hE : EN A h) : EN A (h.set 16 z) := by
  have y := hEk A h (h.set 16 z) hM (MF_set (Or.inr (Or.inl rfl))) hE
  rwa [newA_same (by rw [List.length_set])] at y
/-- PASS -/
theorem run_pass (hd : 82 ≤ d) (hR : MR A0 h0 W0 A h (t + 1) dq ca cp W (some p) bx by_ sf) (hTF : TF h dq) (hdq : dq ≤ 64) {pp ov oa om ot : Int} {onm : Int64} {ovl oot : Value} (hp : fzC A h p (opC 0 pp ov onm oa om ot ovl (oV b) oot)) {q : Nat} {v : VV} (hsq : sf t = some q) (hv : gv A h q v) (hst : st < 199999990) (hc : 1 ≤ c) (hk : KV xt d fi P A0 h0 W0 A h t dq ca cp b bx by_ sf st c W W v) : HD xt d fi st h P := by
  obtain ⟨hM, hB, h32, ⟨pl, ou, lv, lf, rt, h16, hcp⟩, hc0⟩ := hR
  have hp127 := fz_127 hM hp
  refine run_stp hM h16 hTF hdq hst (m_st0 (by omega) h16 hp.2.2 hp127 rfl) (fun h1 hq => ?_)
  subst hq
  have e := newA_same (A := A) (h := h) (h' := h.set 16 (mcC ((t + 1 : Nat) : Int) (dq : Int) (ca : Int) ou (W : Int) 0 pl (oV b) (oV bx) (oV by_) .null lv lf rt)) (by rw [List.length_set])
  refine hk _ (st + 1) sf q (MF_set (Or.inr (Or.inl rfl))) ?_ (fun _ _ => rfl) hsq ?_ (by omega)
  · rw [e]; exact MR_s16 (nw := none) hM hB h32 hcp hc0 h16 rfl
  · rw [e]; exact gv_s16 hM hv
/-- an act with one value, with two -/
theorem run_with1 (hd : 82 ≤ d) (hEk : ENk EN) (hE : EN A h) (hR : MR A0 h0 W0 A h (t + 1) dq ca cp W (some p) bx by_ sf) (hTF : TF h dq) (hp : fzC A h p (doC T i 3 (oV b))) (hAP : AP xt d fi P A0 h0 W0 EN ca cp bx by_ T i (avM T i) F) {q : Nat} {v : VV} (hsq : sf t = some q) (hv : gv A h q v) (ht : t + 484 + 684 * (10 - ca) + 1 ≤ 8192) (hdq : dq + 4 + 5 * (10 - ca) ≤ 64) (hst : (st : Int) + 300 * (W : Int) + 1 < 199000000) (hk : Kon xt d fi P A0 h0 W0 A h t dq ca cp b bx by_ sf st (-4) W (F none v W)) : HD xt d fi st h P := by
  obtain ⟨hM, hB, h32, ⟨pl, ou, lv, lf, rt, h16, hcp⟩, hc0⟩ := hR
  have hp127 := fz_127 hM hp
  have hav := soN_le (T := T) (s := 6) 4 (i + 1)
  have hav : avM T i ≤ 4 := hav
  refine run_stp hM h16 hTF (by omega) (by omega) (m_st3 (t := t) (by omega) h16 hp.2.2 hp127 h32 (by omega) hsq rfl) (fun h1 hq => ?_)
  subst hq
  exact hAP A _ t dq W 0 (st + 1) p b sf none q none v 3 (oV b) (EN_s16 hEk hM hE) (MD_s16 (t' := t) (kk := avM T i) (l := none) (nw' := b) (a := p) (q := q) hM hB h32 hcp hc0 h16 rfl) ⟨by omega, fun _ => by omega⟩ (fz_s16 hM hp) trivial (gv_s16 hM hv) (by omega) (by omega) (by omega) (Kon_s16 hk (by omega))
theorem run_with2 (hd : 82 ≤ d) (hEk : ENk EN) (hE : EN A h) (hR : MR A0 h0 W0 A h (t + 1 + 1) dq ca cp W (some p) bx by_ sf) (hTF : TF h dq) (hp : fzC A h p (doC T i 4 (oV b))) (hAP : AP xt d fi P A0 h0 W0 EN ca cp bx by_ T i (avM T i) F) {ql qw : Nat} {l w : VV} (hsw : sf t = some qw) (hsl : sf (t + 1) = some ql) (hw : gv A h qw w) (hl : gv A h ql l) (ht : t + 1 + 484 + 684 * (10 - ca) + 1 ≤ 8192) (hdq : dq + 4 + 5 * (10 - ca) ≤ 64) (hst : (st : Int) + 300 * (W : Int) + 1 < 199000000) (hk : Kon xt d fi P A0 h0 W0 A h t dq ca cp b bx by_ sf st (-4) W (F (some l) w W)) : HD xt d fi st h P := by
  obtain ⟨hM, hB, h32, ⟨pl, ou, lv, lf, rt, h16, hcp⟩, hc0⟩ := hR
  have hp127 := fz_127 hM hp
  have hav := soN_le (T := T) (s := 6) 4 (i + 1)
  have hav : avM T i ≤ 4 := hav
  refine run_stp hM h16 hTF (by omega) (by omega) (m_st4 (t := t) (by omega) h16 hp.2.2 hp127 h32 (by omega) hsw hsl rfl) (fun h1 hq => ?_)
  subst hq
  exact hAP A _ t dq W 0 (st + 1) p b sf (some ql) qw (some l) w 4 (oV b) (EN_s16 hEk hM hE) (MD_s16 (t' := t) (kk := avM T i) (l := some ql) (nw' := b) (a := p) (q := qw) hM hB h32 hcp hc0 h16 rfl) ⟨by omega, fun _ => by omega⟩ (fz_s16 hM hp) (gv_s16 hM hl) (gv_s16 hM hw) (by omega) (by omega) (by omega) (Kon_s16 hk (by omega))
/-- a place asked for -/
theorem run_at2 (hx1 : xt 1 = some (.long, 0, f1)) (hRT : RMT) (hd : 82 ≤ d) (hca : ca ≤ 10) (hW0 : W0 ≤ 500000) (hR : MR A0 h0 W0 A h (t + 1 + 1) dq ca cp W (some p) bx by_ sf) (hTF : TF h dq) {pp : Int} (hp : fzC A h p (opC 4 pp 64 (Int64.ofInt 0) 0 0 0 .null (oV b) .null)) {ql qw : Nat} {l w : VV} (hsw : sf t = some qw) (hsl : sf (t + 1) = some ql) (hw : gv A h qw w) (hl : gv A h ql l) (ht : t + 2 < 8192) (hdq : dq ≤ 64) (hst : (st : Int) + 300 * (W : Int) + 1 < 199000000) (hk : Kon xt d fi P A0 h0 W0 A h t dq ca cp b bx by_ sf st (-4) W (dTwo cp W 64 l w pp)) : HD xt d fi st h P := by
  obtain ⟨hM, hB, h32, ⟨pl, ou, lv, lf, rt, h16, hcp⟩, hc0⟩ := hR
  have hp127 := fz_127 hM hp
  refine run_stp hM h16 hTF hdq (by omega) (m_st4 (t := t) (by omega) h16 hp.2.2 hp127 h32 (by omega) hsw hsl rfl) (fun h1 hq => ?_)
  subst hq
  exact run_act2 hx1 hRT hd (MD_s16 (t' := t) (kk := 0) (l := some ql) (nw' := b) (a := p) (q := qw) hM hB h32 hcp hc0 h16 rfl) (by omega) (fz_s16 hM hp) (by omega) (gv_s16 hM hl) (gv_s16 hM hw) (by omega) hca hW0 (by omega) (Kon_s16 hk (by omega))
/-- a value has been pushed -/
theorem push_done {pl ou lv : Int} {lf rt : Value} {nw0 : Value} {q : Nat} {v : VV} {h1 : mj_H} (hM : MH A h) (hB : BI A0 h0 W0 A h W 0) (h32 : h[32]? = some (cA 4 8192 sf)) (hcp : 0 < ca → cp = some ou) (hc0 : ca = 0 → cp = none) (h16 : h[16]? = some (mcC (t : Int) (dq : Int) (ca : Int) ou (W : Int) 0 pl nw0 (oV bx) (oV by_) .null lv lf rt)) (hv : gv A h q v) (hst : st < 199999990) (hc : 1 ≤ c) (hk : KV xt d fi P A0 h0 W0 A h t dq ca cp b bx by_ sf st c W W v) (hq : h1 = (h.set 32 (cA 4 8192 (va_up sf t (some q)))).set 16 (mcC ((t + 1 : Nat) : Int) (dq : Int) (ca : Int) ou (W : Int) 0 pl (oV b) (oV bx) (oV by_) .null lv lf rt)) : HD xt d fi (st + 1) h1 P := by
  have fx : FX (fun y => y = 16 ∨ y = 32) 0 0 h h1 := by
    rw [hq]; exact FX_set (Or.inl rfl) (hl_ne (by decide) h16) rfl (FX_set (Or.inr rfl) h32 rfl (FX_rf _ h))
  have hl := hM.1
  have x1 : MF 64 h h1 := MF_FX fx (fun y hy => by
    rcases hy with z | z
    · exact Or.inr (Or.inl z)
    · exact Or.inr (Or.inr (Or.inl z)))
  have x2 : MF dq h h1 := MF_FX fx (fun y hy => by
    rcases hy with z | z
    · exact Or.inr (Or.inl z)
    · exact Or.inr (Or.inr (Or.inl z)))
  exact hk h1 (st + 1) (va_up sf t (some q)) q x2 ⟨MH_64 hM x1 (actH_k (fun y y1 y2 => fx.2.2.2 y (by omega) (by omega)) hM.2.2.1), BI_fx hB fx x1 (by omega), by rw [hq, List.getElem?_set_ne (by decide)]; exact List.getElem?_set_self (hl_lt h32), ⟨pl, ou, lv, lf, rt, by rw [hq]; exact List.getElem?_set_self (by rw [List.length_set]; exact hl_lt h16), hcp⟩, hc0⟩ (fun j hj => up_ne _ _ (by omega)) (up_eq _ _ _) (gv_MF hM.2.1 x1 hv) (by omega)
/-- a value is pushed -/
theorem run_push (hd : 82 ≤ d) (hR : MR A0 h0 W0 A h t dq ca cp W (some p) bx by_ sf) (hTF : TF h dq) (hdq : dq ≤ 64) {pp ov oa om ot : Int} {onm : Int64} {oot : Value} {q : Nat} {v : VV} (hp : fzC A h p (opC 1 pp ov onm oa om ot (.ref q) (oV b) oot)) (hv : gv A h q v) (ht : t < 8192) (hst : st < 199999990) (hc : 1 ≤ c) (hk : KV xt d fi P A0 h0 W0 A h t dq ca cp b bx by_ sf st c W W v) : HD xt d fi st h P := by
  obtain ⟨hM, hB, h32, ⟨pl, ou, lv, lf, rt, h16, hcp⟩, hc0⟩ := hR
  have hp127 := fz_127 hM hp
  obtain ⟨hw1, ⟨hq2, hqA⟩, -, -, row, fr, vals, hcell, -⟩ := id hv.1
  have hq127 := (hM.2.1 q hqA).2
  refine run_stp hM h16 hTF hdq hst (m_st1 (sf := sf) (ovl := .null) (by omega) h16 hp.2.2 hp127 h32 ht hcell hq127 rfl) (fun h1 hq => ?_)
  exact push_done hM hB h32 hcp hc0 h16 hv hst hc hk hq
end ops
