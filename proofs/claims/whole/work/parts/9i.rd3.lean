/-! reading: what the methods of the Reader leave -/
def W2 (h h' : mj_H) (p : Nat) : Prop := h'.length = h.length ∧ mj_sl h' = mj_sl h ∧ ∀ x, x ≠ 13 → x ≠ p → h'[x]? = h[x]?
theorem W2_rf (h : mj_H) (p : Nat) : W2 h h p := ⟨rfl, rfl, fun _ _ _ => rfl⟩
theorem W2_set {h h1 : mj_H} {p a : Nat} {e e' : mj_E} (ha : a = 13 ∨ a = p) (hg : h1[a]? = some e) (hs : mj_sl1 e' = mj_sl1 e) (w : W2 h h1 p) : W2 h (h1.set a e') p := ⟨by rw [List.length_set]; exact w.1, (sl_set hg hs).trans w.2.1, fun x c d => by rw [List.getElem?_set_ne (by omega)]; exact w.2.2 x c d⟩
theorem avI_0 (T : Nat → Tok) (i : Nat) : avI T i 0 = 0 := by unfold avI; rw [if_pos rfl]
theorem avI_1 (T : Nat → Tok) (i : Nat) : avI T i 1 = 0 + tqD (T i) * 1 := by unfold avI; rw [if_neg (by decide), if_pos rfl]
theorem avI_2 (T : Nat → Tok) (i : Nat) : avI T i 2 = 0 + tqD (T i) * 1 + tqD (T (i + 1)) * 256 := by unfold avI; rw [if_neg (by decide), if_neg (by decide), if_pos rfl]
theorem avI_3 (T : Nat → Tok) (i : Nat) : avI T i 3 = 0 + tqD (T i) * 1 + tqD (T (i + 1)) * 256 + tqD (T (i + 1 + 1)) * 65536 := by unfold avI; rw [if_neg (by decide), if_neg (by decide), if_neg (by decide), if_pos rfl]
theorem avI_4 (T : Nat → Tok) (i : Nat) : avI T i 4 = 0 + tqD (T i) * 1 + tqD (T (i + 1)) * 256 + tqD (T (i + 1 + 1)) * 65536 + tqD (T (i + 1 + 1 + 1)) * 16777216 := by unfold avI; rw [if_neg (by decide), if_neg (by decide), if_neg (by decide), if_neg (by decide)]
theorem set_id {h : mj_H} {a : Nat} {e : mj_E} (hg : h[a]? = some e) : h = h.set a e := by
  apply List.ext_getElem?
  intro x
  by_cases z : x = a
  · rw [z, hg, List.getElem?_set_self (hl_lt hg)]
  · rw [List.getElem?_set_ne (fun y => z y.symm)]
theorem i2_0 : (2 : Int) ^ 0 = 1 := rfl
theorem i2_8 : (2 : Int) ^ 8 = 256 := by rw [show (2 : Int) = ((2 : Nat) : Int) from rfl, ← Int.natCast_pow]; rfl
theorem i2_16 : (2 : Int) ^ 16 = 65536 := by rw [show (2 : Int) = ((2 : Nat) : Int) from rfl, ← Int.natCast_pow]; rfl
theorem i2_24 : (2 : Int) ^ 24 = 16777216 := by rw [show (2 : Int) = ((2 : Nat) : Int) from rfl, ← Int.natCast_pow]; rfl
section YM
variable {xt : mj_X} {d own nL : Nat} {ini : Bool} {ret : Option FieldType} {cf : Nat → Option (Instr × Nat)} {pc pc' : Nat} {L : mj_L} {S : List Value} {h : mj_H} {P : Option Value → mj_H → Prop} {a b c m n : Int} {k : Nat}
theorem y_shlM (hc : cf pc = some (.ishl, 1)) (hp : pc + 1 = pc') (hn : n = (k : Int)) (hk : k < 31) (hm : (2 : Int) ^ k = m) (q : pgE xt d own nL ini ret cf pc' L (ii (a * m) :: S) h P) : pgE xt d own nL ini ret cf pc L (ii n :: ii a :: S) h P := by
  subst hn; subst hm; exact y_shl hc hp hk q
theorem y_orM (hc : cf pc = some (.ior, 1)) (hp : pc + 1 = pc') (hm : (2 : Int) ^ k = m) (hb : b = c * m) (h0 : 0 ≤ a) (h1 : a < m) (h2 : 0 ≤ c) (h3 : a + c * m ≤ 2147483647) (q : pgE xt d own nL ini ret cf pc' L (ii (a + b) :: S) h P) : pgE xt d own nL ini ret cf pc L (ii b :: ii a :: S) h P := by
  subst hm; exact y_or hc hp hb h0 h1 h2 h3 q
end YM
def ceM (m : Nat) : Nat := if m = 0 ∨ m = 4 then 1 else 0
/-- what reading leaves: modes 0, 3 and 4 -/
def RX (A : Nat → Prop) (h : mj_H) (T : Nat → Tok) (ln f m o i : Nat) (b : Option Nat) (ls : Int) (nm : Int64) (st : Value) (x : Value) (h' : mj_H) : Prop :=
  ∃ (at_ wr : Int) (tl : Value), h'[13]? = some (rdC at_ wr ls nm st tl) ∧ rdF h h' 13 ∧ (match pR T f m o i with
    | .inl p => x = .null ∧ wr = (p : Int) ∧ h'.length + 4 * tqP (T i) ≤ h.length + 4 * ln + ceM m ∧ mj_sl h' + 40 * tqP (T i) ≤ mj_sl h + 40 * ln + 10 * ceM m
    | .inr j => at_ = (j : Int) ∧ ∃ op, x = .ref op ∧ (2 ≤ op ∧ h.length ≤ op ∧ op < h'.length) ∧ cR (newA A h h') h' T f m o i op b 0 0 ∧ h'.length + 4 * tqP (T i) + (1 - ceM m) ≤ h.length + 4 * tqP (T j) ∧ mj_sl h' + 40 * tqP (T i) + 10 * (1 - ceM m) ≤ mj_sl h + 40 * tqP (T j))
section RXs
variable {A : Nat → Prop} {h h' : mj_H} {T : Nat → Tok} {ln f m o i : Nat} {b : Option Nat} {ls : Int} {nm : Int64} {st x : Value}
theorem RX_e {p : Nat} (e : pR T f m o i = .inl p) (hx : RX A h T ln f m o i b ls nm st x h') : ∃ (at_ : Int) (tl : Value), x = .null ∧ h'[13]? = some (rdC at_ (p : Int) ls nm st tl) ∧ rdF h h' 13 ∧ h'.length + 4 * tqP (T i) ≤ h.length + 4 * ln + ceM m ∧ mj_sl h' + 40 * tqP (T i) ≤ mj_sl h + 40 * ln + 10 * ceM m := by
  obtain ⟨a, w, t, h1, h2, h3⟩ := hx
  rw [e] at h3
  obtain ⟨h4, h5, h6⟩ := h3
  exact ⟨a, t, h4, by rw [← h5]; exact h1, h2, h6⟩
theorem RX_v {j : Nat} (e : pR T f m o i = .inr j) (hx : RX A h T ln f m o i b ls nm st x h') : ∃ (op : Nat) (wr : Int) (tl : Value), x = .ref op ∧ h'[13]? = some (rdC (j : Int) wr ls nm st tl) ∧ rdF h h' 13 ∧ (2 ≤ op ∧ h.length ≤ op ∧ op < h'.length) ∧ cR (newA A h h') h' T f m o i op b 0 0 ∧ h'.length + 4 * tqP (T i) + (1 - ceM m) ≤ h.length + 4 * tqP (T j) ∧ mj_sl h' + 40 * tqP (T i) + 10 * (1 - ceM m) ≤ mj_sl h + 40 * tqP (T j) := by
  obtain ⟨a, w, t, h1, h2, h3⟩ := hx
  rw [e] at h3
  obtain ⟨h4, op, h5, h6⟩ := h3
  exact ⟨op, w, t, h5, by rw [← h4]; exact h1, h2, h6⟩
theorem RX_ie {p : Nat} {at_ : Int} {tl : Value} (e : pR T f m o i = .inl p) (h1 : h'[13]? = some (rdC at_ (p : Int) ls nm st tl)) (h2 : rdF h h' 13) (h3 : h'.length + 4 * tqP (T i) ≤ h.length + 4 * ln + ceM m) (h4 : mj_sl h' + 40 * tqP (T i) ≤ mj_sl h + 40 * ln + 10 * ceM m) : RX A h T ln f m o i b ls nm st .null h' := by
  refine ⟨at_, (p : Int), tl, h1, h2, ?_⟩
  rw [e]
  exact ⟨rfl, rfl, h3, h4⟩
theorem RX_iv {j op : Nat} {wr : Int} {tl : Value} (e : pR T f m o i = .inr j) (h1 : h'[13]? = some (rdC (j : Int) wr ls nm st tl)) (h2 : rdF h h' 13) (hop : 2 ≤ op ∧ h.length ≤ op ∧ op < h'.length) (hc : cR (newA A h h') h' T f m o i op b 0 0) (h3 : h'.length + 4 * tqP (T i) + (1 - ceM m) ≤ h.length + 4 * tqP (T j)) (h4 : mj_sl h' + 40 * tqP (T i) + 10 * (1 - ceM m) ≤ mj_sl h + 40 * tqP (T j)) : RX A h T ln f m o i b ls nm st (.ref op) h' := by
  refine ⟨(j : Int), wr, tl, h1, h2, ?_⟩
  rw [e]
  exact ⟨rfl, op, rfl, hop, hc, h3, h4⟩
end RXs
theorem P_le {T : Nat → Tok} {mk ln : Nat} (h : TOKS T mk ln) : ∀ {i j : Nat}, i ≤ j → j ≤ mk → tqP (T i) + (j - i) ≤ tqP (T j) := by
  intro i j hij hj
  induction j with
  | zero => rw [show i = 0 by omega]; omega
  | succ j ih =>
    by_cases z : i = j + 1
    · rw [z]; omega
    · have a := ih (by omega) (by omega)
      have b := h.2.2.2.2.2.2.1 j (by omega)
      omega
theorem P_ln {T : Nat → Tok} {mk ln : Nat} (h : TOKS T mk ln) (i : Nat) : tqP (T i) ≤ ln := h.2.2.2.2.2.2.2.2.1 i
