/-! the Machine's run: names and calls -/
/-- a function's body -/
def BDY (A : Nat → Prop) (h : mj_H) (T : Nat → Tok) (qf : Nat) : Prop := ∃ mk ln j, TOKS T mk ln ∧ 3 ≤ mk ∧ (∀ j, tqS (T j) = 6 → tqD (T j) = 39 ∨ tqD (T j) = 47 ∨ tqD (T j) = 92) ∧ pR T fuR 0 1 3 = .inr j ∧ cR A h T fuR 0 1 3 qf none 0 0
/-- what the names stand for -/
def NVF (Nv : Int → Option VV) (Fn : Int → Option (Nat → Tok)) (A : Nat → Prop) (h : mj_H) : Prop := ∃ n m kf jf vf of, NMS h n m kf jf vf of ∧ (∀ c : Int, (fndK kf n (Int64.ofInt c) = n ∧ Nv c = none) ∨ (fndK kf n (Int64.ofInt c) < n ∧ ∃ q v, vf (fndK kf n (Int64.ofInt c)) = some q ∧ Nv c = some v ∧ gv A h q v)) ∧ (∀ c : Int, (fndK jf m (Int64.ofInt c) = m ∧ Fn c = none) ∨ (fndK jf m (Int64.ofInt c) < m ∧ ∃ qf T, of (fndK jf m (Int64.ofInt c)) = some qf ∧ Fn c = some T ∧ BDY A h T qf))
def ENV (Nv : Int → Option VV) (Fn : Int → Option (Nat → Tok)) (bx by_ : Option Nat) (x y : Option VV) (A : Nat → Prop) (h : mj_H) : Prop := NVF Nv Fn A h ∧ OG A h bx x ∧ OG A h by_ y
theorem NMS_MF {h h' : mj_H} {n m dq : Nat} {kf jf : Nat → Int64} {vf of : Nat → Option Nat} (hl : 127 ≤ h.length) (x : MF dq h h') (hN : NMS h n m kf jf vf of) : NMS h' n m kf jf vf of := by
  obtain ⟨a1, a2, a3, a4, a5, a6⟩ := hN
  have e : ∀ y, 4 ≤ y → y ≤ 8 → h'[y]? = h[y]? := fun y y1 y2 => x.2 y (by omega) (by unfold mcS scr; omega)
  exact ⟨by rw [e 4 (by decide) (by decide)]; exact a1, by rw [e 5 (by decide) (by decide)]; exact a2, by rw [e 6 (by decide) (by decide)]; exact a3, by rw [e 7 (by decide) (by decide)]; exact a4, by rw [e 8 (by decide) (by decide)]; exact a5, a6⟩
theorem NVF_MF {Nv : Int → Option VV} {Fn : Int → Option (Nat → Tok)} {A : Nat → Prop} {h h' : mj_H} {dq : Nat} (hM : MH A h) (x : MF dq h h') (hN : NVF Nv Fn A h) : NVF Nv Fn (newA A h h') h' := by
  obtain ⟨n, m, kf, jf, vf, of, a1, a2, a3⟩ := hN
  refine ⟨n, m, kf, jf, vf, of, NMS_MF hM.1 x a1, fun c => ?_, fun c => ?_⟩
  · rcases a2 c with z | ⟨z1, q, v, z2, z3, z4⟩
    · exact Or.inl z
    · exact Or.inr ⟨z1, q, v, z2, z3, gv_MF hM.2.1 x z4⟩
  · rcases a3 c with z | ⟨z1, q, T, z2, z3, mk, ln, j, w1, w2, w3, w4, w5⟩
    · exact Or.inl z
    · exact Or.inr ⟨z1, q, T, z2, z3, mk, ln, j, w1, w2, w3, w4, cR_k (MF_kp hM.2.1 x) _ _ _ _ _ _ _ _ w5⟩
theorem ENV_k {Nv : Int → Option VV} {Fn : Int → Option (Nat → Tok)} {bx by_ : Option Nat} {x y : Option VV} : ENk (ENV Nv Fn bx by_ x y) := fun _ _ _ hM m hE => ⟨NVF_MF hM m hE.1, OG_MF hM.2.1 m hE.2.1, OG_MF hM.2.1 m hE.2.2⟩
/-- a name's value, or none -/
def dNo (cp : Option Int) (pl : Int) (W : Nat) (o : Option VV) : DR := match o with
  | none => dEr cp W 2 pl
  | some v => (W, .inr v)
theorem dNm_o {Nv : Int → Option VV} {x y : Option VV} {cp : Option Int} {c pl : Int} {W : Nat} : dNm Nv x y cp c pl W = dNo cp pl W (if c = 24 then x else if c = 25 then y else Nv c) := rfl
section looks
variable {xt : mj_X} {f1 : Nat → Value} {d fi : Nat} {P : Option Value → mj_H → Prop} {A0 : Nat → Prop} {h0 : mj_H} {W0 : Nat} {dq ca : Nat} {cp : Option Int} {bx by_ : Option Nat} {T : Nat → Tok} {Nv : Int → Option VV} {Fn : Int → Option (Nat → Tok)} {x y : Option VV}
theorem key_ne {c a : Int} (hc : -1000000000000000000 < c ∧ c < 1000000000000000000) (ha : 0 ≤ a ∧ a ≤ 100) (h : c ≠ a) : Int64.ofInt c ≠ Int64.ofInt a := fun z => h (by
  have e := congrArg Int64.toInt z
  rw [n_toL (by omega) (by omega), n_toL (by omega) (by omega)] at e
  exact e)
theorem run_look (hd : 82 ≤ d) (hdq : dq ≤ 64) (hca : ca ≤ 10) (hD : ∀ i, -1000000000000000000 < tqD (T i) ∧ tqD (T i) < 1000000000000000000) : LKP xt d fi P A0 h0 W0 (ENV Nv Fn bx by_ x y) dq ca cp bx by_ T Nv x y := by
  intro A h t W st p i b sf c hE hR hTF hp ht hst hc hk
  obtain ⟨hM, hB, h32, ⟨pl, ou, lv, lf, rt, h16, hcp⟩, hc0⟩ := hR
  have hp127 := fz_127 hM hp
  obtain ⟨z0, hz0⟩ : ∃ z0, z0 = mcC ((t : Nat) : Int) (dq : Int) (ca : Int) ou (W : Int) 0 pl (oV b) (oV bx) (oV by_) .null lv lf rt := ⟨_, rfl⟩
  have hMz := MH_s16 hM z0
  have hBz := BI_s16 hB h16 (c := z0) (by rw [hz0]; rfl)
  have h16z : (h.set 16 z0)[16]? = some (mcC ((t : Nat) : Int) (dq : Int) (ca : Int) ou (W : Int) 0 pl (oV b) (oV bx) (oV by_) .null lv lf rt) := by rw [← hz0]; exact List.getElem?_set_self (hl_lt h16)
  have h32z : (h.set 16 z0)[32]? = some (cA 4 8192 sf) := by rw [List.getElem?_set_ne (by decide)]; exact h32
  have hpz := fz_s16 (z := z0) hM hp
  have hkz := Kon_s16 (z := z0) (st2 := st) (W2 := W) (c2 := c) hk (by omega)
  obtain ⟨hNV, hox, hoy⟩ := EN_s16 (z := z0) ENV_k hM hE
  obtain ⟨n, m, kf, jf, vf, of, hN, hV, -⟩ := hNV
  have go : ∀ {Q : mj_H → Prop}, pgN xt (d - 1) 167 [.ref 16, .ref p] (h.set 16 z0) Q → (∀ h1, Q h1 → HD xt d fi (st + 1) h1 P) → HD xt d fi st h P := fun hcall k => run_stp hM h16 hTF hdq hst (m_st2 (by omega) h16 hp.2.2 hp127 (by rw [← hz0]; exact hcall)) k
  have err : ∀ h1, h1 = (h.set 16 z0).set 16 (mcC ((t : Nat) : Int) (dq : Int) (ca : Int) ou (W : Int) 2 (if (0 : Int) < (ca : Int) then ou else (tqP (T i) : Int)) (oV b) (oV bx) (oV by_) .null lv lf rt) → KE xt d fi P A0 h0 W0 W 2 (dPl cp (tqP (T i) : Int)) → HD xt d fi (st + 1) h1 P := fun h1 hq k => by
    rw [hq]
    exact err_s16 (e := 2) (by omega) hMz hBz (by omega) (Nat.le_refl _) hst h16z h32z rfl hcp hc0 k
  have suc : ∀ h1 q v, gv A (h.set 16 z0) q v → h1 = ((h.set 16 z0).set 32 (cA 4 8192 (va_up sf t (some q)))).set 16 (mcC ((t + 1 : Nat) : Int) (dq : Int) (ca : Int) ou (W : Int) 0 pl (oV b) (oV bx) (oV by_) .null lv lf rt) → KV xt d fi P A0 h0 W0 A (h.set 16 z0) t dq ca cp b bx by_ sf st c W W v → HD xt d fi (st + 1) h1 P := fun h1 q v hg hq k => push_done hMz hBz h32z hcp hc0 h16z hg hst hc k hq
  by_cases h24 : tqD (T i) = 24
  · rw [h24] at hpz
    have e1 : dNm Nv x y cp (tqD (T i)) (tqP (T i) : Int) W = dNo cp (tqP (T i) : Int) W (x) := by
      rw [dNm_o, if_pos h24]
    rw [e1] at hkz
    cases bx with
    | none =>
      cases x with
      | some v => exact hox.elim
      | none => exact go (m_lookXN (by omega) h16z h32z ht hN hpz.2.2 hp127 (by omega) rfl) (fun h1 hq => err h1 hq hkz)
    | some q =>
      cases x with
      | none => exact hox.elim
      | some v =>
        obtain ⟨-, ⟨hq2, -⟩, -, -, row, fr, vals, hcell, -⟩ := id hox.1
        exact go (m_lookXY (by omega) h16z h32z ht hN hcell hq2 hpz.2.2 hp127 (by omega) rfl) (fun h1 hq => suc h1 q v hox hq hkz)
  · by_cases h25 : tqD (T i) = 25
    · rw [h25] at hpz
      have e1 : dNm Nv x y cp (tqD (T i)) (tqP (T i) : Int) W = dNo cp (tqP (T i) : Int) W (y) := by
        rw [dNm_o, if_neg h24, if_pos h25]
      rw [e1] at hkz
      cases by_ with
      | none =>
        cases y with
        | some v => exact hoy.elim
        | none => exact go (m_lookYN (by omega) h16z h32z ht hN hpz.2.2 hp127 (by omega) rfl) (fun h1 hq => err h1 hq hkz)
      | some q =>
        cases y with
        | none => exact hoy.elim
        | some v =>
          obtain ⟨-, ⟨hq2, -⟩, -, -, row, fr, vals, hcell, -⟩ := id hoy.1
          exact go (m_lookYY (by omega) h16z h32z ht hN hcell hq2 hpz.2.2 hp127 (by omega) rfl) (fun h1 hq => suc h1 q v hoy hq hkz)
    · have e1 : dNm Nv x y cp (tqD (T i)) (tqP (T i) : Int) W = dNo cp (tqP (T i) : Int) W (Nv (tqD (T i))) := by
        rw [dNm_o, if_neg h24, if_neg h25]
      rw [e1] at hkz
      have k4 := key_ne (hD i) (a := 24) (by omega) h24
      have k5 := key_ne (hD i) (a := 25) (by omega) h25
      rcases hV (tqD (T i)) with ⟨z1, z2⟩ | ⟨z1, q, v, z2, z3, z4⟩
      · rw [z2] at hkz
        exact go (m_lookVN (by omega) h16z h32z ht hN k4 k5 z1 hpz.2.2 hp127 (by omega) rfl) (fun h1 hq => err h1 hq hkz)
      · rw [z3] at hkz
        obtain ⟨-, ⟨hq2, -⟩, -, -, row, fr, vals, hcell, -⟩ := id z4.1
        exact go (m_lookVY (by omega) h16z h32z ht hN hcell hq2 k4 k5 z1 z2 hpz.2.2 hp127 (by omega) rfl) (fun h1 hq => suc h1 q v z4 hq hkz)
end looks
section calls
variable {xt : mj_X} {f1 : Nat → Value} {d fi : Nat} {P : Option Value → mj_H → Prop} {A0 : Nat → Prop} {h0 : mj_H} {W0 : Nat} {Nv : Int → Option VV} {Fn : Int → Option (Nat → Tok)}
/-- acts within a body with k calls more to be opened -/
def CLL (xt : mj_X) (d fi : Nat) (P : Option Value → mj_H → Prop) (A0 : Nat → Prop) (h0 : mj_H) (W0 : Nat) (Nv : Int → Option VV) (Fn : Int → Option (Nat → Tok)) (k : Nat) : Prop := ∀ (ca : Nat) (cp : Option Int) (bx by_ : Option Nat) (x y : Option VV) (T : Nat → Tok) (mk ln i : Nat), ca + k = 10 → TOKS T mk ln → isDs T i → AP xt d fi P A0 h0 W0 (ENV Nv Fn bx by_ x y) ca cp bx by_ T i 0 (dAp (eC Nv Fn k) T i cp 0)
theorem TOKS_D {T : Nat → Tok} {mk ln : Nat} (h : TOKS T mk ln) : ∀ i, -1000000000000000000 < tqD (T i) ∧ tqD (T i) < 1000000000000000000 := h.2.2.2.2.2.1
theorem TOKS_V {T : Nat → Tok} {mk ln : Nat} (h : TOKS T mk ln) : ∀ i, tqS (T i) = 5 ∨ tqS (T i) = 6 ∨ tqS (T i) = 7 → 1 ≤ tqD (T i) ∧ tqD (T i) ≤ 126 := h.2.2.2.2.2.2.2.2.2.1
/-- a body is done -/
theorem BDY_do (hx1 : xt 1 = some (.long, 0, f1)) (hRT : RMT) (hd : 82 ≤ d) (hW0 : W0 ≤ 500000) {k ca dq : Nat} {cp : Option Int} {bx by_ : Option Nat} {x y : Option VV} {T : Nat → Tok} {mk ln o i j op : Nat} {b : Option Nat} {A1 : Nat → Prop} {h1 : mj_H} (hck : ca + k = 10) (hdq : dq + 4 + 5 * (10 - ca) ≤ 64) (hK : TOKS T mk ln) (hA3 : ∀ j, tqS (T j) = 6 → tqD (T j) = 39 ∨ tqD (T j) = 47 ∨ tqD (T j) = 92) (hC : CLL xt d fi P A0 h0 W0 Nv Fn k) (hi : i ≤ mk) (hpR : pR T fuR 0 o i = .inr j) (hcR : cR A1 h1 T fuR 0 o i op b 0 0) : DO xt d fi P A0 h0 W0 (ENV Nv Fn bx by_ x y) dq ca cp bx by_ A1 h1 op b (4 * ((j : Int) - i)) (j - i) (eE (eC Nv Fn k) T Nv x y cp fuR 0 o i zB) := by
  have hAP : ∀ i, isDs T i → AP xt d fi P A0 h0 W0 (ENV Nv Fn bx by_ x y) ca cp bx by_ T i (avM T i) (dAp (eC Nv Fn k) T i cp (avM T i)) := fun i hds => AP_all hx1 hd hK (by omega) hW0 ENV_k hA3 (hC ca cp bx by_ x y T mk ln i hck hK hds) (avM T i) (Nat.le_refl _)
  exact (SX_all (call := eC Nv Fn k) hx1 hRT hd (by omega) hW0 hK ENV_k hdq (run_look hd (by omega) (by omega) (TOKS_D hK)) hAP fuR).1 o i j op b hi hpR hcR
/-- what a call's Frame keeps comes back -/
theorem run_back (hd : 82 ≤ d) {A : Nat → Prop} {h : mj_H} {t dq ca W st : Nat} {cp cp' : Option Int} {nw bx by_ bx' by' : Option Nat} {sf : Nat → Option Nat} {fn fm fb : Int} {q : Nat} {v : VV} {c pl : Int} (hR : MR A0 h0 W0 A h (t + 1) (dq + 1) (ca + 1) cp' W none bx' by' sf) (hdq : dq < 64) (hfr : h[34 + dq]? = some (cO 0 [ii 0, oV nw, oV bx, oV by_, ii fn, ii fm, ii fb])) (hcp : cp' = some (dPl cp pl)) (hc0 : ca = 0 → cp = none) (hc1 : 0 < ca → ∃ ou, cp = some ou) (hsq : sf t = some q) (hv : gv A h q v) (hst : st < 199999990) (hc : 1 ≤ c) (hk : KV xt d fi P A0 h0 W0 A h t dq ca cp nw bx by_ sf st c W W v) : HD xt d fi st h P := by
  obtain ⟨hM, hB, h32, ⟨pl', ou, lv, lf, rt, h16, hcp2⟩, -⟩ := hR
  obtain ⟨⟨ff, f33, fff⟩, -⟩ := hM.2.2.2.1
  refine tn_back (fr := 34 + dq) (by omega) h16 hdq f33 (fff dq hdq) (by omega) hfr rfl (m_giveBack (by omega) h16 hfr (by omega) rfl) (fun h1 hq => ?_)
  have e1 : ((dq + 1 : Nat) : Int) - 1 = (dq : Int) := by omega
  have e2 : ((ca + 1 : Nat) : Int) - 1 = (ca : Int) := by omega
  rw [e1, e2] at hq
  subst hq
  have hou : 0 < ca → cp = some ou := fun z => by
    obtain ⟨o9, ho9⟩ := hc1 z
    have := hcp2 (by omega)
    rw [hcp, ho9] at this
    rw [ho9]
    exact this
  have e := newA_same (A := A) (h := h) (h' := h.set 16 (mcC ((t + 1 : Nat) : Int) (dq : Int) (ca : Int) ou (W : Int) 0 pl' (oV nw) (oV bx) (oV by_) .null lv lf rt)) (by rw [List.length_set])
  refine hk _ (st + 1) sf q (MF_set (Or.inr (Or.inl rfl))) ?_ (fun _ _ => rfl) hsq ?_ (by omega)
  · rw [e]; exact MR_s16 (nw := none) hM hB h32 hou hc0 h16 rfl
  · rw [e]; exact gv_s16 hM hv
theorem CLL_0 (hx1 : xt 1 = some (.long, 0, f1)) (hRO : RMO) (hRT : RMT) (hd : 82 ≤ d) (hW0 : W0 ≤ 500000) : CLL xt d fi P A0 h0 W0 Nv Fn 0 := by
  intro ca cp bx by_ x y T mk ln i hck hK hds
  rcases hds with h5 | h4
  · exact AP_v hx1 hRO hRT hd (by omega) hW0 h5 (TOKS_V hK i (Or.inl h5))
  · intro A h t dq W s st p nw sf lq wq l w dd nx hEN hD hs hp hl hw ht hdq hst hk
    have hp : fzC A h p (opC dd (tqP (T i) : Int) 0 (Int64.ofInt (tqD (T i))) (avI T (i + 1) (avM T i)) (avM T i : Int) 0 .null nx .null) := by
      unfold doC at hp
      rw [if_neg (by omega), if_neg (by omega)] at hp
      exact hp
    have e1 : dAp (eC Nv Fn 0) T i cp 0 l w W = (match Fn (tqD (T i)) with | none => dEr cp W 2 (tqP (T i) : Int) | some _ => dEr cp W 9 (tqP (T i) : Int)) := if_pos h4
    rw [e1] at hk
    obtain ⟨hM, hB, h32, ⟨pl, ou, h16, hcp⟩, hc0⟩ := hD
    have hp127 := fz_127 hM hp
    obtain ⟨n, m, kf, jf, vf, of, hN, -, hF⟩ := hEN.1
    rcases hF (tqD (T i)) with ⟨z1, z2⟩ | ⟨z1, qf, T', z2, z3, z4⟩
    · rw [z2] at hk
      refine tn_call (by omega) h16 rfl hp.2.2 hp127 rfl (m_callN (by omega) h16 hN hp.2.2 hp127 (by omega) z1 rfl) (fun h1 hq => ?_)
      subst hq
      exact err_s16 (e := 2) (by omega) hM hB hs.1 (Nat.le_refl _) (by omega) h16 h32 rfl hcp hc0 hk
    · rw [z3] at hk
      refine tn_call (by omega) h16 rfl hp.2.2 hp127 rfl (m_callD (by omega) h16 hN hp.2.2 hp127 (by omega) z1 z2 (by omega) rfl) (fun h1 hq => ?_)
      subst hq
      exact err_s16 (e := 9) (by omega) hM hB hs.1 (Nat.le_refl _) (by omega) h16 h32 rfl hcp hc0 hk
theorem CLL_s (hx1 : xt 1 = some (.long, 0, f1)) (hRO : RMO) (hRT : RMT) (hd : 82 ≤ d) (hW0 : W0 ≤ 500000) {k : Nat} (ih : CLL xt d fi P A0 h0 W0 Nv Fn k) : CLL xt d fi P A0 h0 W0 Nv Fn (k + 1) := by
  intro ca cp bx by_ x y T mk ln i hck hK hds
  rcases hds with h5 | h4
  · exact AP_v hx1 hRO hRT hd (by omega) hW0 h5 (TOKS_V hK i (Or.inl h5))
  · intro A h t dq W s st p nw sf lq wq l w dd nx hEN hD hs hp hl hw ht hdq hst hk
    have hp : fzC A h p (opC dd (tqP (T i) : Int) 0 (Int64.ofInt (tqD (T i))) (avI T (i + 1) (avM T i)) (avM T i : Int) 0 .null nx .null) := by
      unfold doC at hp
      rw [if_neg (by omega), if_neg (by omega)] at hp
      exact hp
    obtain ⟨pl0, hpl0⟩ : ∃ pl0 : Int, pl0 = (tqP (T i) : Int) := ⟨_, rfl⟩
    have e1 : dAp (eC Nv Fn (k + 1)) T i cp 0 l w W = (match Fn (tqD (T i)) with | none => dEr cp W 2 pl0 | some T' => dTk cp W 5 pl0 (fun W => eE (eC Nv Fn k) T' Nv (some (l.getD w)) (l.map (fun _ => w)) (some (dPl cp pl0)) fuR 0 1 3 zB W)) := by rw [hpl0]; exact if_pos h4
    rw [e1] at hk
    rw [← hpl0] at hp
    obtain ⟨hM, hB, h32, ⟨pl, ou, h16, hcp⟩, hc0⟩ := hD
    have hp127 := fz_127 hM hp
    have hWle := BI_le hB hs.1
    have hlen := hM.1
    obtain ⟨⟨ff, f33, fff⟩, f3⟩ := hM.2.2.2.1
    obtain ⟨fl, fn, fm, fb, fo, fx, fy, hfr⟩ := f3 dq (by omega)
    obtain ⟨n, m, kf, jf, vf, of, hN, -, hF⟩ := id hEN.1
    rcases hF (tqD (T i)) with ⟨z1, z2⟩ | ⟨z1, qf, T', z2, z3, mk', ln', j, w1, w2, w3, w4, w5⟩
    · rw [z2] at hk
      refine tn_call (by omega) h16 rfl hp.2.2 hp127 rfl (m_callN (by omega) h16 hN hp.2.2 hp127 (by omega) z1 rfl) (fun h1 hq => ?_)
      subst hq
      exact err_s16 (e := 2) (by omega) hM hB hs.1 (Nat.le_refl _) (by omega) h16 h32 rfl hcp hc0 hk
    · rw [z3] at hk
      have hk : Kon xt d fi P A0 h0 W0 A h t dq ca cp nw bx by_ sf st (-5) W (dTk cp W 5 pl0 (fun W => eE (eC Nv Fn k) T' Nv (some (l.getD w)) (l.map (fun _ => w)) (some (dPl cp pl0)) fuR 0 1 3 zB W)) := hk
      by_cases hW5 : W < 5
      · have e2 : dTk cp W 5 pl0 (fun W => eE (eC Nv Fn k) T' Nv (some (l.getD w)) (l.map (fun _ => w)) (some (dPl cp pl0)) fuR 0 1 3 zB W) = dEr cp W 10 pl0 := if_pos hW5
        rw [e2] at hk
        refine tn_call (by omega) h16 rfl hp.2.2 hp127 rfl (m_callW (by omega) h16 hN hp.2.2 hp127 (by omega) z1 z2 (by omega) (by omega) (by omega) (by omega) f33 rfl) (fun h1 hq => ?_)
        subst hq
        exact err_s16 (e := 10) (by omega) hM hB hs.1 (Nat.le_refl _) (by omega) h16 h32 rfl hcp hc0 hk
      · have e2 : dTk cp W 5 pl0 (fun W => eE (eC Nv Fn k) T' Nv (some (l.getD w)) (l.map (fun _ => w)) (some (dPl cp pl0)) fuR 0 1 3 zB W) = eE (eC Nv Fn k) T' Nv (some (l.getD w)) (l.map (fun _ => w)) (some (dPl cp pl0)) fuR 0 1 3 zB (W - 5) := if_neg hW5
        rw [e2] at hk
        have n16 : (34 + dq) ≠ 16 := by omega
        have n32 : (34 + dq) ≠ 32 := by omega
        have hjm := pR_mk w1 fuR 0 1 3 j w2 w4
        have hmk := w1.1
        have hou : (if (ca : Int) = 0 then pl0 else ou) = dPl cp pl0 := by
          by_cases z : ca = 0
          · rw [if_pos (by omega), hc0 z]; rfl
          · rw [if_neg (by omega), hcp (by omega)]; rfl
        -- the body, whatever x and y stand for
        have body : ∀ (h1 : mj_H) (bx' by' : Option Nat) (x' y' : Option VV) (lf rt : Value), h1 = (h.set 16 (mcC (t : Int) ((dq : Int) + 1) ((ca : Int) + 1) (if (ca : Int) = 0 then pl0 else ou) ((W : Int) - 5) 0 pl (.ref qf) (oV bx') (oV by') .null ((0 : Nat) : Int) lf rt)).set (34 + dq) (cO 0 [ii 0, oV nw, oV bx, oV by_, ii fn, ii fm, ii fb]) → mj_sl1 (mcC (t : Int) ((dq : Int) + 1) ((ca : Int) + 1) (if (ca : Int) = 0 then pl0 else ou) ((W : Int) - 5) 0 pl (.ref qf) (oV bx') (oV by') .null ((0 : Nat) : Int) lf rt) = mj_sl1 (mcC (t : Int) (dq : Int) (ca : Int) ou (W : Int) 0 pl (oV nw) (oV bx) (oV by_) (.ref p) ((0 : Nat) : Int) (oV lq) (.ref wq)) → OG A h bx' x' → OG A h by' y' → Kon xt d fi P A0 h0 W0 A h t dq ca cp nw bx by_ sf st (-5) W (eE (eC Nv Fn k) T' Nv x' y' (some (dPl cp pl0)) fuR 0 1 3 zB (W - 5)) → HD xt d fi (st + 1) h1 P := by
          intro h1 bx' by' x' y' lf rt hq hsl hox hoy hk
          have gx : FX (fun y => y = 16 ∨ y = 32 ∨ y = 34 + dq) 0 0 h h1 := by
            rw [hq]; exact FX_set (Or.inr (Or.inr rfl)) (hl_ne n16 hfr) rfl (FX_set (Or.inl rfl) h16 hsl (FX_rf _ h))
          have gfr : h1[34 + dq]? = some (cO 0 [ii 0, oV nw, oV bx, oV by_, ii fn, ii fm, ii fb]) := by rw [hq]; exact List.getElem?_set_self (by rw [List.length_set]; omega)
          have g16 : h1[16]? = some (mcC (t : Int) ((dq + 1 : Nat) : Int) ((ca + 1 : Nat) : Int) (dPl cp pl0) ((W - 5 : Nat) : Int) 0 pl (oV (some qf)) (oV bx') (oV by') .null ((0 : Nat) : Int) lf rt) := by
            rw [hq, List.getElem?_set_ne n16, List.getElem?_set_self (hl_lt h16), hou, show (dq : Int) + 1 = ((dq + 1 : Nat) : Int) by omega, show (ca : Int) + 1 = ((ca + 1 : Nat) : Int) by omega, show (W : Int) - 5 = ((W - 5 : Nat) : Int) by omega]
            rfl
          have g32 : h1[32]? = some (cA 4 8192 sf) := by rw [hq, List.getElem?_set_ne n32, List.getElem?_set_ne (by decide)]; exact h32
          obtain ⟨x1, hM1⟩ := MH_fx hM gx (by omega) gfr
          have hB1 := BI_W (W' := W - 5) (s' := 0) (BI_fx hB gx x1 (by omega)) (by omega) (by omega)
          have hdo := BDY_do (fi := fi) (P := P) (A0 := A0) (h0 := h0) (Nv := Nv) (Fn := Fn) (cp := some (dPl cp pl0)) (bx := bx') (by_ := by') (x := x') (y := y') (A1 := newA A h h1) (h1 := h1) (ca := ca + 1) (dq := dq + 1) (k := k) (op := qf) (b := none) hx1 hRT hd hW0 (by omega) (by omega) w1 w3 ih w2 w4 (cR_k (MF_kp hM.2.1 x1) _ _ _ _ _ _ _ _ w5)
          refine hdo (newA A h h1) h1 t (W - 5) (st + 1) sf (kpA_rf _ _) ⟨NVF_MF hM x1 hEN.1, OG_MF hM.2.1 x1 hox, OG_MF hM.2.1 x1 hoy⟩ ⟨hM1, hB1, g32, ⟨pl, dPl cp pl0, _, _, _, g16, fun _ => rfl⟩, fun z => by omega⟩ (fun e he => ?_) (by omega) (by omega) ?_
          · rw [show e = dq by omega]; exact ⟨_, _, _, _, _, _, gfr⟩
          · rcases hr : eE (eC Nv Fn k) T' Nv x' y' (some (dPl cp pl0)) fuR 0 1 3 zB (W - 5) with ⟨W2, e | v⟩
            · rw [hr] at hk; exact hk
            · rw [hr] at hk
              intro h2 st2 sf2 q y1 y2 y3 y4 y5 y6
              have y6 : (st2 : Int) + 300 * (W2 : Int) ≤ ((st + 1 : Nat) : Int) + 300 * ((W - 5 : Nat) : Int) + 4 * ((j : Int) - (3 : Nat)) := y6
              rw [newA_tr x1.1 y1.1] at y2 y5
              have x2 : MF dq h h2 := MF_tr x1 (MF_dn (by omega) y1)
              have hfr2 : h2[34 + dq]? = some (cO 0 [ii 0, oV nw, oV bx, oV by_, ii fn, ii fm, ii fb]) := by rw [y1.2 (34 + dq) (by have := x1.1; omega) (by unfold mcS scr; omega)]; exact gfr
              exact run_back hd y2 (by omega) hfr2 rfl hc0 (fun z => ⟨ou, hcp z⟩) y4 y5 (by omega) (c := 1) (by omega) (Kon_tr (r := (W2, .inr v)) hk x2 y3 (by omega))
        cases lq with
        | none =>
          cases l with
          | some v => exact hl.elim
          | none =>
            refine tn_call (by omega) h16 rfl hp.2.2 hp127 rfl (m_callKO (fr := 34 + dq) (bn := nw) (by omega) h16 hN hp.2.2 hp127 (by omega) z1 z2 (by omega) (by omega) (by omega) (by omega) f33 (fff dq (by omega)) (by omega) hfr rfl) (fun h1 hq => ?_)
            exact body h1 (some wq) none (some w) none .null (.ref wq) hq rfl hw trivial hk
        | some ql =>
          cases l with
          | none => exact hl.elim
          | some v =>
            refine tn_call (by omega) h16 rfl hp.2.2 hp127 rfl (m_callKT (fr := 34 + dq) (bn := nw) (by omega) h16 hN hp.2.2 hp127 (by omega) z1 z2 (by omega) (by omega) (by omega) (by omega) f33 (fff dq (by omega)) (by omega) hfr rfl) (fun h1 hq => ?_)
            exact body h1 (some ql) (some wq) (some v) (some w) (.ref ql) (.ref wq) hq rfl hl hw hk
theorem CLL_all (hx1 : xt 1 = some (.long, 0, f1)) (hRO : RMO) (hRT : RMT) (hd : 82 ≤ d) (hW0 : W0 ≤ 500000) : ∀ k, CLL xt d fi P A0 h0 W0 Nv Fn k := by
  intro k
  induction k with
  | zero => exact CLL_0 hx1 hRO hRT hd hW0
  | succ k ih => exact CLL_s hx1 hRO hRT hd hW0 ih
end calls
