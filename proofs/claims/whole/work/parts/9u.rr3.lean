/-! the reference reads an expression -/
def EJ (bf : Nat → Int) (ln : Nat) (F : Nat → Int → Bool) (T : Nat → Tok) (mk n m hi f o i : Nat) (s : RS) (a g : Nat) (x : Int) (z : RS) : Prop := RD bf ln F n m hi z a ∧ z.1 51 = (o : Int) ∧ z.1 52 = -1 ∧ rdR s z ∧ (i ≤ a ∧ a ≤ mk) ∧ (8 * (mk - a) + 6 ≤ g ∧ g ≤ f) ∧ pR T f 0 o i = pR T g 0 o a ∧ RMd T s z i a 0 0 ∧ (∀ (z' : RS) (B n' : Nat), rdR z z' → z.1 50 ≤ (n' : Int) → rR z' T g 0 o a B n' x → rR z' T f 0 o i B n' (-1))
/-- an act stands at j; nv: the noun ahead of it -/
def AJ (bf : Nat → Int) (ln : Nat) (F : Nat → Int → Bool) (T : Nat → Tok) (mk n m hi o a g : Nat) (z : RS) (j : Nat) (nv : Int) (y : RS) : Prop := RD bf ln F n m hi y j ∧ y.1 51 = (o : Int) ∧ y.1 52 = -1 ∧ isDs T j ∧ rdR z y ∧ RMd T z y a j 0 (-1) ∧ (a ≤ j ∧ j < mk) ∧ ((nv = -1 ∧ j = a) ∨ (¬ isDs T a ∧ pR T g 1 o a = .inr j ∧ ∃ nn B : Nat, nv = (nn : Int) ∧ nn < B ∧ y.1 50 = (B : Int) ∧ rR y T g 1 o a B nn 0))
def acS (y : RS) (N : Nat) (w nv sg pl x : Int) (dt : Int64) : RS := ((nodS y N w nv sg 0 pl).1, (nodS y N w nv sg 0 pl).2.1, va_up (nodS y N w nv sg 0 pl).2.2.1 48 (va_up ((nodS y N w nv sg 0 pl).2.2.1 48) N x), va_up (nodS y N w nv sg 0 pl).2.2.2 49 (va_up ((nodS y N w nv sg 0 pl).2.2.2 49) N dt))
def thS (v : RS) (N : Nat) (x : Int) : RS := (v.1, v.2.1, va_up v.2.2.1 46 (va_up (v.2.2.1 46) N x), v.2.2.2)
/-- node N is the act at j, as far as c of its ADVERBS; y: the state ahead of it -/
def VJ (bf : Nat → Int) (ln : Nat) (F : Nat → Int → Bool) (T : Nat → Tok) (n m hi j N : Nat) (nv x : Int) (y : RS) (c : Nat) (v : RS) : Prop := RD bf ln F n m hi v (j + 1 + c) ∧ v.1 51 = y.1 51 ∧ v.1 52 = -1 ∧ v.1 50 = (N : Int) + 1 ∧ v.1 3 = y.1 3 ∧ v.1 4 = y.1 4 ∧ rdR y v ∧ c ≤ 4 ∧ (∀ k, k < c → tqS (T (j + 1 + k)) = 6) ∧ (tqS (T j) = 5 → v.2.2.1 43 N = 6 ∧ v.2.2.1 45 N = tqD (T j)) ∧ (tqS (T j) = 4 → v.2.2.1 43 N = 7 ∧ v.2.2.2 49 N = Int64.ofInt (tqR (T j))) ∧ v.2.2.1 44 N = nv ∧ v.2.2.1 46 N = rvI T (j + 1) c ∧ v.2.2.1 47 N = (tqP (T j) : Int) ∧ v.2.2.1 48 N = x
theorem rdR_I {s t : RS} {I : Nat → Nat → Int} {J : Nat → Nat → Int64} (h : rdR s t) (hI : ∀ k y : Nat, (k < 43 ∨ 48 < k ∨ (y : Int) < s.1 50) → I k y = t.2.2.1 k y) (hJ : ∀ k y : Nat, (k ≠ 49 ∨ (y : Int) < s.1 50) → J k y = t.2.2.2 k y) : rdR s (t.1, t.2.1, I, J) := by
  obtain ⟨⟨a1, a2, a3, a4⟩, b, c, d, e, f, g, k⟩ := h
  exact ⟨⟨a1, a2, fun hd p q => ⟨(hI 1 hd (by omega)).trans (a3 hd p q).1, (hI 2 hd (by omega)).trans (a3 hd p q).2⟩, fun y hy => (hJ 0 y (by omega)).trans (a4 y hy)⟩, b, c, d, fun q hq => (funext fun y => hI q y (by omega)).trans (e q hq), fun q h1 h2 => (funext fun y => hJ q y (by omega)).trans (f q h1 h2), fun q y h1 h2 h3 => (hI q y (by omega)).trans (g q y h1 h2 h3), fun y hy => (hJ 49 y (by omega)).trans (k y hy)⟩
theorem va2_ne {α : Type} (I : Nat → Nat → α) (a N : Nat) (x : α) (k y : Nat) (h : k ≠ a ∨ y ≠ N) : va_up I a (va_up (I a) N x) k y = I k y := by
  by_cases z : k = a
  · subst z; rw [up_eq, up_ne _ _ (by omega)]
  · rw [up_ne _ _ z]
theorem rdR_ac {y : RS} {N : Nat} (h : y.1 50 = (N : Int)) (w nv sg pl x : Int) (dt : Int64) : rdR y (acS y N w nv sg pl x dt) := rdR_I (rdR_nod h w nv sg 0 pl) (fun k z hz => va2_ne _ _ _ _ _ _ (by omega)) (fun k z hz => va2_ne _ _ _ _ _ _ (by omega))
theorem tkE_ac (y : RS) (N : Nat) (w nv sg pl x : Int) (dt : Int64) : tkE y (acS y N w nv sg pl x dt) := ⟨fun k _ _ => up_ne _ _ (by omega), rfl⟩
theorem RD_I {bf : Nat → Int} {ln n m hi j : Nat} {F : Nat → Int → Bool} {t : RS} {I : Nat → Nat → Int} {J : Nat → Nat → Int64} (h : RD bf ln F n m hi t j) (hI : I 32 = t.2.2.1 32) (hJ : J 20 = t.2.2.2 20) : RD bf ln F n m hi (t.1, t.2.1, I, J) j := by
  obtain ⟨r1, r2, r3, r4⟩ := h
  refine ⟨r1, ?_, r3, fun k a b => FNp_k hJ rfl (r4 k a b)⟩
  unfold tpR at r2 ⊢
  rw [show (t.1, t.2.1, I, J).2.2.1 32 = t.2.2.1 32 from hI]
  exact r2
section EJs
variable {bf : Nat → Int} {ln mk n m hi f o i a g j N c : Nat} {F : Nat → Int → Bool} {T : Nat → Tok} {s y z v : RS} {x nv : Int}
theorem EJ_0 (h1 : RD bf ln F n m hi s i) (h2 : s.1 51 = (o : Int)) (h3 : s.1 52 = -1) (hi1 : i ≤ mk) (hf : 8 * (mk - i) + 6 ≤ f) : EJ bf ln F T mk n m hi f o i s i f (-1) s := ⟨h1, h2, h3, rdR_rf s, ⟨Nat.le_refl _, hi1⟩, ⟨hf, Nat.le_refl _⟩, rfl, ⟨by omega, by omega, by omega⟩, fun _ _ _ _ _ h => h⟩
theorem AJ_d (hK : TOKS T mk ln) (hE : EJ bf ln F T mk n m hi f o i s a (g + 1) x z) (hd : isDs T a) : AJ bf ln F T mk n m hi o a g z a (-1) z := by
  obtain ⟨b1, b2, b3, b4, b5, b6, b7, b8, b9⟩ := hE
  have := TOKS_lt hK (i := a) (by omega)
  exact ⟨b1, b2, b3, hd, rdR_rf z, ⟨by omega, by omega, by omega⟩, ⟨Nat.le_refl _, this⟩, Or.inl ⟨rfl, rfl⟩⟩
theorem AJ_n {nn B : Nat} (hK : TOKS T mk ln) (hd : ¬ isDs T a) (e : pR T g 1 o a = .inr j) (hj : isDs T j) (h1 : RD bf ln F n m hi y j) (h2 : y.1 51 = (o : Int)) (h3 : y.1 52 = -1) (h4 : rdR z y) (h5 : RMd T z y a j 1 (-1)) (h6 : nn < B) (h7 : y.1 50 = (B : Int)) (h8 : rR y T g 1 o a B nn 0) (haj : a < j) : AJ bf ln F T mk n m hi o a g z j (nn : Int) y := by
  have := TOKS_lt hK (i := j) (by omega)
  exact ⟨h1, h2, h3, hj, h4, RMd_w h5 (by omega) (by omega), ⟨by omega, this⟩, Or.inr ⟨hd, e, nn, B, rfl, h6, h7, h8⟩⟩
theorem VJ_0 {dt : Int64} {w sg pl : Int} {u : RS} (hA : AJ bf ln F T mk n m hi o a g z j nv y) (hN : y.1 50 = (N : Int)) (hw : w = (if tqS (T j) = 5 then 6 else 7)) (hs : tqS (T j) = 5 → sg = tqD (T j)) (hp : pl = (tqP (T j) : Int)) (hdt : tqS (T j) = 4 → dt = Int64.ofInt (tqR (T j))) (hk : rtk (acS y N w nv sg pl x dt) u) (hR : RD bf ln F n m hi u (j + 1)) : VJ bf ln F T n m hi j N nv x y 0 u := by
  obtain ⟨-, a2, a3, a4, -⟩ := hA
  have ei : ∀ k, ¬ (35 ≤ k ∧ k ≤ 40) → k ≠ 50 → u.1 k = y.1 k := fun k h1 h2 => (hk.2.2.1 k h1).trans ((nod_i y N w nv sg 0 pl).2 k h2)
  have na := nod_at y N w nv sg 0 pl
  have eI : ∀ k q, k ≠ 48 → u.2.2.1 k q = (nodS y N w nv sg 0 pl).2.2.1 k q := fun k q hq => by rw [hk.1]; exact va2_ne _ _ _ _ _ _ (Or.inl hq)
  refine ⟨hR, ei 51 (by decide) (by decide), (ei 52 (by decide) (by decide)).trans a3, (hk.2.2.1 50 (by decide)).trans (nod_i y N w nv sg 0 pl).1, ei 3 (by decide) (by decide), ei 4 (by decide) (by decide), rdR_tr (rdR_ac hN w nv sg pl x dt) (rdT_tk hk).1, Nat.zero_le _, fun k hk => absurd hk (by omega), fun h5 => ⟨?_, ?_⟩, fun h4 => ⟨?_, ?_⟩, ?_, ?_, ?_, ?_⟩
  · rw [eI 43 N (by decide), na.1, hw, if_pos h5]
  · rw [eI 45 N (by decide), na.2.2.1, hs h5]
  · rw [eI 43 N (by decide), na.1, hw, if_neg (by omega)]
  · rw [hk.2.1]
    show va_up (nodS y N w nv sg 0 pl).2.2.2 49 (va_up _ N dt) 49 N = _
    rw [up_eq, up_eq, hdt h4]
  · rw [eI 44 N (by decide), na.2.1]
  · rw [eI 46 N (by decide), na.2.2.2.1]; rfl
  · rw [eI 47 N (by decide), na.2.2.2.2.1, hp]
  · rw [hk.1]
    show va_up (nodS y N w nv sg 0 pl).2.2.1 48 (va_up _ N x) 48 N = _
    rw [up_eq, up_eq]
theorem VJ_s {u : RS} (hN : y.1 50 = (N : Int)) (hV : VJ bf ln F T n m hi j N nv x y c v) (h6 : tqS (T (j + 1 + c)) = 6) (hc : c < 4) (hk : rtk (thS v N (rvI T (j + 1) c + rcA (tqD (T (j + 1 + c))) * 4 ^ c)) u) (hR : RD bf ln F n m hi u (j + 1 + c + 1)) : VJ bf ln F T n m hi j N nv x y (c + 1) u := by
  obtain ⟨b1, b2, b3, b4, b5, b6, b7, b8, b9, b10, b11, b12, b13, b14, b15⟩ := hV
  have ei : ∀ k, ¬ (35 ≤ k ∧ k ≤ 40) → u.1 k = v.1 k := fun k h1 => hk.2.2.1 k h1
  have eI : ∀ k q, k ≠ 46 → u.2.2.1 k q = v.2.2.1 k q := fun k q hq => by rw [hk.1]; exact va2_ne _ _ _ _ _ _ (Or.inl hq)
  have hr : rdR y (thS v N (rvI T (j + 1) c + rcA (tqD (T (j + 1 + c))) * 4 ^ c)) := rdR_I b7 (fun k q hq => va2_ne _ _ _ _ _ _ (by omega)) (fun _ _ _ => rfl)
  refine ⟨hR, (ei 51 (by decide)).trans b2, (ei 52 (by decide)).trans b3, (ei 50 (by decide)).trans b4, (ei 3 (by decide)).trans b5, (ei 4 (by decide)).trans b6, rdR_tr hr (rdT_tk hk).1, by omega, fun k hk2 => ?_, fun h5 => ⟨(eI 43 N (by decide)).trans (b10 h5).1, (eI 45 N (by decide)).trans (b10 h5).2⟩, fun h4 => ⟨(eI 43 N (by decide)).trans (b11 h4).1, by rw [hk.2.1]; exact (b11 h4).2⟩, (eI 44 N (by decide)).trans b12, ?_, (eI 47 N (by decide)).trans b14, (eI 48 N (by decide)).trans b15⟩
  · by_cases z : k = c
    · rw [z]; exact h6
    · exact b9 k (by omega)
  · rw [hk.1]
    show va_up v.2.2.1 46 (va_up (v.2.2.1 46) N _) 46 N = rvI T (j + 1) (c + 1)
    rw [up_eq, up_eq]; rfl
/-- the act is read -/
theorem EJ_s (hK : TOKS T mk ln) (hE : EJ bf ln F T mk n m hi f o i s a (g + 1) x z) (hA : AJ bf ln F T mk n m hi o a g z j nv y) (hN : y.1 50 = (N : Int)) (hV : VJ bf ln F T n m hi j N nv x y c v) (h6 : tqS (T (j + 1 + c)) ≠ 6) : EJ bf ln F T mk n m hi f o i s (dsE T j) g (N : Int) v ∧ a < dsE T j := by
  have hso : soN T 6 4 (j + 1) = c := soN_eq 4 (j + 1) c hV.2.2.2.2.2.2.2.1 hV.2.2.2.2.2.2.2.2.1 (Or.inr h6)
  have hds : dsE T j = j + 1 + c := by show j + 1 + soN T 6 4 (j + 1) = _; rw [hso]
  have dm := dsE_mk hK hA.2.2.2.1
  have hP := P_le hK (i := j) (j := dsE T j) (by omega) dm.2.2
  have hzv := rdR_tr hA.2.2.2.2.1 hV.2.2.2.2.2.2.1
  have hzy := hA.2.2.2.2.1.2.1
  have q5 := hE.2.2.2.2.1
  have q6 := hE.2.2.2.2.2.1
  have qa := hA.2.2.2.2.2.2.1
  have v50 := hV.2.2.2.1
  have v3 := hV.2.2.2.2.1
  have v4 := hV.2.2.2.2.2.1
  have qM : RMd T s v i (dsE T j) 0 0 := by
    obtain ⟨c1, c2, c3⟩ := hE.2.2.2.2.2.2.2.1
    obtain ⟨d1, d2, d3⟩ := hA.2.2.2.2.2.1
    exact ⟨by omega, by omega, by omega⟩
  have haj : a < dsE T j := by omega
  have hid : i ≤ dsE T j := by omega
  have hfu : 8 * (mk - dsE T j) + 6 ≤ g ∧ g ≤ f := by omega
  refine ⟨⟨by rw [hds]; exact hV.1, by rw [hV.2.1]; exact hA.2.1, hV.2.2.1, rdR_tr hE.2.2.2.1 hzv, ⟨hid, dm.2.2⟩, hfu, ?_, qM, ?_⟩, haj⟩
  · rw [hE.2.2.2.2.2.2.1]
    rcases hA.2.2.2.2.2.2.2 with ⟨-, q⟩ | ⟨q1, q2, -⟩
    · rw [pR0_d (by rw [← q]; exact hA.2.2.2.1), q]
    · rw [pR0_a q1 q2 hA.2.2.2.1]
  · intro z' B n' hz hn hr
    have hNn : N < n' := by omega
    have hzn : z.1 50 ≤ (n' : Int) := by omega
    have hNv : ((N + 1 : Nat) : Int) ≤ v.1 50 := by omega
    have hk : ndK v z' (N + 1) := ndK_d hz hNv
    have hac : acR z' T j N nv x := by
      obtain ⟨b1, b2, b3, b4, b5, b6, b7, b8, b9, b10, b11, b12, b13, b14, b15⟩ := hV
      exact acR_k hk (Nat.lt_succ_self N) ⟨b10, b11, b12, by rw [b13]; show _ = rvI T (j + 1) (soN T 6 4 (j + 1)); rw [hso], b14, b15⟩
    refine hE.2.2.2.2.2.2.2.2 z' B n' (rdR_tr hzv hz) hzn ?_
    have a4 := hA.2.2.2.1
    have b7 := hV.2.2.2.2.2.2.1
    rcases hA.2.2.2.2.2.2.2 with ⟨q1, q⟩ | ⟨q1, q2, nn, C, q3, q4, q5, q6⟩
    · rw [q1] at hac
      rw [q] at hac hr a4
      exact (rR_d a4).mpr ⟨N, hNn, hac, hr⟩
    · rw [q3] at hac
      have hCy : ((C : Nat) : Int) ≤ y.1 50 := by omega
      have hnn : nn < n' := by omega
      have hCn : C ≤ n' := by omega
      exact (rR_a q1 q2 a4).mpr ⟨N, nn, hNn, hnn, hac, rR_k _ _ _ _ _ _ _ _ _ _ (ndK_d (rdR_tr b7 hz) hCy) hCn q6, hr⟩
/-- a fifth ADVERB -/
theorem EJ_5 (hE : EJ bf ln F T mk n m hi f o i s a (g + 1) x z) (hA : AJ bf ln F T mk n m hi o a g z j nv y) (hV : VJ bf ln F T n m hi j N nv x y 4 v) (h6 : tqS (T (j + 1 + 4)) = 6) (hg : 3 ≤ g) : pR T f 0 o i = .inl (tqP (T (j + 1 + 4))) := by
  have hso : soN T 6 4 (j + 1) = 4 := soN_eq 4 (j + 1) 4 (Nat.le_refl _) hV.2.2.2.2.2.2.2.2.1 (Or.inl rfl)
  have hds : dsE T j = j + 1 + 4 := by show j + 1 + soN T 6 4 (j + 1) = _; rw [hso]
  obtain ⟨e1, e2, e3, e4, e5, e6, e7, e8, e9⟩ := hE
  obtain ⟨a1, a2, a3, a4, a5, a6, a7, a8⟩ := hA
  obtain ⟨q, rfl⟩ : ∃ q, g = q + 3 := ⟨g - 3, by omega⟩
  have hx : pR T (q + 3) 0 o (dsE T j) = .inl (tqP (T (j + 1 + 4))) := by
    rw [hds]
    exact pR0_e (by omega) (pR1_e (pR3_x (by omega) (fun z => by have := z.1.1; omega) (fun z => by have := z.1.1; omega)))
  rw [e7]
  rcases a8 with ⟨-, q1⟩ | ⟨q1, q2, -⟩
  · rw [pR0_d (by rw [← q1]; exact a4), ← q1]; exact hx
  · rw [pR0_a q1 q2 a4]; exact hx
end EJs
theorem rcA_r (c : Int) : 1 ≤ rcA c ∧ rcA c ≤ 3 := by unfold rcA; split; omega; split <;> omega
theorem rvI_r (T : Nat → Tok) (i : Nat) : ∀ c, 0 ≤ rvI T i c ∧ rvI T i c < 4 ^ c := by
  intro c
  induction c with
  | zero => exact ⟨Int.le_refl _, by show (0 : Int) < 4 ^ 0; decide⟩
  | succ c ih =>
    have r := rcA_r (tqD (T (i + c)))
    have p : (4 : Int) ^ (c + 1) = 4 ^ c * 4 := Int.pow_succ 4 c
    show 0 ≤ rvI T i c + rcA (tqD (T (i + c))) * 4 ^ c ∧ rvI T i c + rcA (tqD (T (i + c))) * 4 ^ c < 4 ^ (c + 1)
    rw [p]
    generalize (4 : Int) ^ c = P at *
    generalize rcA (tqD (T (i + c))) = R at *
    rcases (show R = 1 ∨ R = 2 ∨ R = 3 by omega) with q | q | q <;> (rw [q]; omega)
theorem p24 : ∀ c : Nat, (2 : Int) ^ (2 * c) = 4 ^ c := by
  intro c
  induction c with
  | zero => rfl
  | succ c ih => rw [show 2 * (c + 1) = 2 * c + 1 + 1 by omega, Int.pow_succ, Int.pow_succ, ih, Int.pow_succ, Int.mul_assoc]; rfl
theorem p4_r {c : Nat} (h : c < 4) : 1 ≤ (4 : Int) ^ c ∧ (4 : Int) ^ c ≤ 64 := by
  rcases (show c = 0 ∨ c = 1 ∨ c = 2 ∨ c = 3 by omega) with q | q | q | q <;> (rw [q]; decide)
/-! the reference reads a noun -/
def NJ (bf : Nat → Int) (ln : Nat) (F : Nat → Int → Bool) (T : Nat → Tok) (mk n m hi f o i : Nat) (s : RS) (a g nq : Nat) (z : RS) : Prop := RD bf ln F n m hi z a ∧ z.1 51 = (o : Int) ∧ z.1 52 = -1 ∧ rdR s z ∧ (i < a ∧ a ≤ mk) ∧ (8 * (mk - a) + 6 ≤ g ∧ g ≤ f) ∧ pR T (f + 1) 1 o i = pR T g 2 o a ∧ RMd T s z i a 1 (-1) ∧ (∃ B : Nat, z.1 50 = (B : Int) ∧ nq < B) ∧ s.1 50 ≤ (nq : Int) ∧ (∀ (z' : RS) (B n' : Nat), rdR z z' → z.1 50 ≤ (B : Int) → rR z' T g 2 o a B n' (nq : Int) → rR z' T (f + 1) 1 o i B n' 0)
section NJs
variable {bf : Nat → Int} {ln mk n m hi f o i a g nq : Nat} {F : Nat → Int → Bool} {T : Nat → Tok} {s z : RS}
theorem NJ_0 {j B : Nat} {t : RS} (e0 : pR T f 3 o i = .inr j) (h1 : RD bf ln F n m hi t j) (h2 : t.1 51 = (o : Int)) (h3 : t.1 52 = -1) (h4 : rdR s t) (h5 : RMd T s t i j 1 (-1)) (h6 : s.1 50 ≤ (nq : Int)) (h7 : nq < B) (h8 : t.1 50 = (B : Int)) (h9 : rR t T f 3 o i B nq 0) (hij : i < j ∧ j ≤ mk) (hf : 8 * (mk - i) + 5 ≤ f + 1) : NJ bf ln F T mk n m hi f o i s j f nq t :=
  ⟨h1, h2, h3, h4, hij, ⟨by omega, Nat.le_refl _⟩, pR1_n e0, h5, ⟨B, h8, h7⟩, h6, fun z' C n' hz hC hr => (rR_1 e0).mpr ⟨nq, rR_k _ _ _ _ _ _ _ _ _ _ (ndK_d hz (by omega)) (by omega) h9, hr⟩⟩
theorem NJ_s {k e B C : Nat} {t u v w : RS} (hK : TOKS T mk ln) (hN : NJ bf ln F T mk n m hi f o i s a (g + 1) nq z) (hix : isIx T a) (ho : o < 12) (ee : pR T g 0 (o + 1) (a + 2) = .inr k) (hmk : isMk T k 41) (hak : a + 2 < k ∧ k < mk) (ht : rdT z t) (hu : rdR t u) (hM : RMd T t u (a + 2) k 0 (-1)) (he : e < B) (hB : u.1 50 = (B : Int)) (hc : rR u T g 0 (o + 1) (a + 2) B e (-1)) (hv : rdT u v) (hC : v.1 50 = (C : Int)) (hw : w = nodS v C 5 (nq : Int) (e : Int) 0 (tqP (T a) : Int)) (hR : RD bf ln F n m hi v (k + 1)) (v51 : v.1 51 = (o : Int)) (v52 : v.1 52 = -1) : NJ bf ln F T mk n m hi f o i s (k + 1) g C w := by
  obtain ⟨b1, b2, b3, b4, b5, b6, b7, b8, ⟨Bz, b9, b10⟩, b11, b12⟩ := hN
  subst hw
  have nr := rdR_nod hC 5 (nq : Int) (e : Int) 0 (tqP (T a) : Int)
  have na := nod_at v C 5 (nq : Int) (e : Int) 0 (tqP (T a) : Int)
  have ni := nod_i v C 5 (nq : Int) (e : Int) 0 (tqP (T a) : Int)
  have hzw := rdR_tr ht.1 (rdR_tr hu (rdR_tr hv.1 nr))
  have hP1 := P_le hK (i := a) (j := a + 2) (by omega) (by omega)
  have hP2 := hK.2.2.2.2.2.2.1 k hak.2
  obtain ⟨-, t3, t4, t5, -⟩ := ht
  obtain ⟨-, v3, v4, v5, -⟩ := id hv
  obtain ⟨m1, m2, m3⟩ := hM
  obtain ⟨c1, c2, c3⟩ := b8
  have n3 := ni.2 3 (by decide)
  have n4 := ni.2 4 (by decide)
  have zu := hu.2.1
  refine ⟨RD_fr nr (tkE_nod _ _ _ _ _ _ _) hR, (ni.2 51 (by decide)).trans v51, (ni.2 52 (by decide)).trans v52, rdR_tr b4 hzw, ⟨by omega, by omega⟩, ⟨by omega, by omega⟩, by rw [b7, pR2_g hix ho ee hmk], ⟨by omega, by omega, by omega⟩, ⟨C + 1, by omega, by omega⟩, by have := b4.2.1; omega, ?_⟩
  intro z' D n' hz hD hr
  have hk : ndK (nodS v C 5 (nq : Int) (e : Int) 0 (tqP (T a) : Int)) z' (C + 1) := ndK_d hz (by omega)
  refine b12 z' D n' (rdR_tr hzw hz) (by omega) ((rR_ix hix ee).mpr ⟨C, e, by omega, by omega, ?_, ⟨(hk.1 43 C (by decide) (by decide) (by omega)).trans na.1, (hk.1 44 C (by decide) (by decide) (by omega)).trans na.2.1, (hk.1 45 C (by decide) (by decide) (by omega)).trans na.2.2.1, (hk.1 47 C (by decide) (by decide) (by omega)).trans na.2.2.2.2.1⟩, hr⟩)
  exact rR_k _ _ _ _ _ _ _ _ _ _ (ndK_d (rdR_tr hv.1 (rdR_tr nr hz)) (show ((B : Nat) : Int) ≤ u.1 50 by omega)) (by omega) hc
theorem NJ_e {pre post : mj_H} (hN : NJ bf ln F T mk n m hi f o i s a (g + 1) nq z) (hix : ¬ isIx T a) : RQ pre post bf ln F T n m hi s (f + 1) 1 o i 0 (ii (nq : Int)) (rS pre post z) := by
  obtain ⟨b1, b2, b3, b4, b5, b6, b7, b8, ⟨B, b9, b10⟩, b11, b12⟩ := hN
  exact RQ_iv (b7.trans (pR2_n hix)) b4 b1 b2 b3 b8 b11 b10 b9 (b12 z B nq (rdR_rf z) (by omega) ((rR_ixn hix).mpr rfl))
end NJs
/-- a cell beyond those that are in use -/
def ceS (z : RS) (p : Nat) (x : Int64) : RS := (z.1, z.2.1, z.2.2.1, va_up z.2.2.2 0 (va_up (z.2.2.2 0) p x))
theorem ce_k (z : RS) (p : Nat) (x : Int64) (k y : Nat) (h : k ≠ 0 ∨ y ≠ p) : (ceS z p x).2.2.2 k y = z.2.2.2 k y := va2_ne z.2.2.2 0 p x k y h
theorem rdR_ce {s z : RS} {p : Nat} {x : Int64} (h : rdR s z) (hp : s.1 3 ≤ (p : Int)) : rdR s (ceS z p x) := by
  obtain ⟨⟨a1, a2, a3, a4⟩, b, c, d, e, f, g, k⟩ := h
  exact ⟨⟨a1, a2, a3, fun y hy => (ce_k z p x 0 y (by omega)).trans (a4 y hy)⟩, b, c, d, e, fun q h1 h2 => (funext fun y => ce_k z p x q y (Or.inl h1)).trans (f q h1 h2), g, fun y hy => (ce_k z p x 49 y (Or.inl (by decide))).trans (k y hy)⟩
/-- c numbers are read -/
def UJ (bf : Nat → Int) (ln : Nat) (F : Nat → Int → Bool) (T : Nat → Tok) (mk n m hi i : Nat) (s : RS) (b c : Nat) (z : RS) : Prop := RD bf ln F n m hi z (i + c) ∧ rdR s z ∧ (z.1 3 = s.1 3 ∧ z.1 4 = s.1 4 ∧ z.1 50 = s.1 50 ∧ z.1 51 = s.1 51 ∧ z.1 52 = s.1 52) ∧ i + c ≤ mk ∧ (∀ k, k < c → tqS (T (i + k)) = 1) ∧ (∀ k, k < c → z.2.2.2 0 (b + k) = Int64.ofInt (tqD (T (i + k))))
section UJs
variable {bf : Nat → Int} {ln mk n m hi i b c : Nat} {F : Nat → Int → Bool} {T : Nat → Tok} {s z u : RS}
theorem UJ_0 (h : RD bf ln F n m hi s i) (hi1 : i ≤ mk) : UJ bf ln F T mk n m hi i s b 0 s := ⟨h, rdR_rf s, ⟨rfl, rfl, rfl, rfl, rfl⟩, hi1, fun k hk => absurd hk (by omega), fun k hk => absurd hk (by omega)⟩
theorem UJ_s (hb : s.1 3 = (b : Int)) (h : UJ bf ln F T mk n m hi i s b c z) (h1 : tqS (T (i + c)) = 1) (hk : rtk (ceS z (b + c) (Int64.ofInt (tqD (T (i + c))))) u) (hR : RD bf ln F n m hi u (i + c + 1)) (hlt : i + c < mk) : UJ bf ln F T mk n m hi i s b (c + 1) u := by
  obtain ⟨a1, a2, ⟨a3, a4, a5, a6, a7⟩, a8, a9, a10⟩ := h
  have ei : ∀ k, ¬ (35 ≤ k ∧ k ≤ 40) → u.1 k = z.1 k := fun k h1 => hk.2.2.1 k h1
  refine ⟨hR, rdR_tr (rdR_ce a2 (by omega)) (rdT_tk hk).1, ⟨(ei 3 (by decide)).trans a3, (ei 4 (by decide)).trans a4, (ei 50 (by decide)).trans a5, (ei 51 (by decide)).trans a6, (ei 52 (by decide)).trans a7⟩, by omega, fun k hk2 => ?_, fun k hk2 => ?_⟩
  · by_cases y : k = c
    · rw [y]; exact h1
    · exact a9 k (by omega)
  · rw [hk.2.1]
    show va_up z.2.2.2 0 (va_up (z.2.2.2 0) (b + c) _) 0 (b + k) = _
    rw [up_eq]
    by_cases y : k = c
    · rw [y, up_eq]
    · rw [up_ne _ _ (by omega)]; exact a10 k (by omega)
end UJs
theorem row_i (z : RS) (q b : Nat) (kind nn : Int) : (rowS z q b kind nn).1 3 = (b : Int) + nn ∧ (rowS z q b kind nn).1 4 = (q : Int) + 1 ∧ (∀ k, k ≠ 3 → k ≠ 4 → (rowS z q b kind nn).1 k = z.1 k) := by
  refine ⟨?_, ?_, fun k h3 h4 => ?_⟩
  · show va_up (va_up z.1 3 ((b : Int) + nn)) 4 ((q : Int) + 1) 3 = _
    rw [up_ne _ _ (by decide), up_eq]
  · show va_up (va_up z.1 3 ((b : Int) + nn)) 4 ((q : Int) + 1) 4 = _
    rw [up_eq]
  · show va_up (va_up z.1 3 ((b : Int) + nn)) 4 ((q : Int) + 1) k = _
    rw [up_ne _ _ h4, up_ne _ _ h3]
theorem row_I (z : RS) (q b : Nat) (kind nn : Int) {k : Nat} (h1 : k ≠ 1) (h2 : k ≠ 2) : (rowS z q b kind nn).2.2.1 k = z.2.2.1 k := by
  show va_up (va_up z.2.2.1 1 (va_up (z.2.2.1 1) q (b : Int))) 2 (va_up (z.2.2.1 2) q (kind + nn * 8)) k = _
  rw [up_ne _ _ h2, up_ne _ _ h1]
theorem rdR_row {s z : RS} {q b : Nat} {kind nn : Int} (h : rdR s z) (hq : z.1 4 = (q : Int)) (hb : z.1 3 = (b : Int)) (hn : 0 ≤ nn) : rdR s (rowS z q b kind nn) := by
  have ri := row_i z q b kind nn
  refine rdR_tr h ⟨rext_row hq hb kind hn, ?_, fun k hk => ri.2.2 k (by omega) (by omega), fun _ _ => rfl, fun k hk => row_I z q b kind nn (by omega) (by omega), fun _ _ _ => rfl, fun k y h1 h2 _ => by rw [row_I z q b kind nn (by omega) (by omega)], fun _ _ => rfl⟩
  rw [ri.2.2 50 (by decide) (by decide)]
  exact Int.le_refl _
theorem rdR_fill {s z : RS} {b k : Nat} {g : Nat → Int64} (h : rdR s z) (hb : s.1 3 ≤ (b : Int)) : rdR s (fillS z b k g) := by
  obtain ⟨a, b1, c, d, e, f, g1, k1⟩ := h
  refine ⟨rext_fill a hb g, b1, c, d, e, fun q h1 h2 => ?_, g1, fun y hy => ?_⟩
  · show va_up z.2.2.2 0 (fb b k g (z.2.2.2 0)) q = _
    rw [up_ne _ _ h1]; exact f q h1 h2
  · show va_up z.2.2.2 0 (fb b k g (z.2.2.2 0)) 49 y = _
    rw [up_ne _ _ (by decide)]; exact k1 y hy
theorem tkE_row (z : RS) (q b : Nat) (kind nn : Int) : tkE z (rowS z q b kind nn) := ⟨fun k h1 h2 => (row_i z q b kind nn).2.2 k (by omega) (by omega), rfl⟩
theorem RD_row {bf : Nat → Int} {ln n m hi j q b : Nat} {F : Nat → Int → Bool} {z : RS} {kind nn : Int} (h : RD bf ln F n m hi z j) (hq : z.1 4 = (q : Int)) (hb : z.1 3 = (b : Int)) (hn : 0 ≤ nn) : RD bf ln F n m hi (rowS z q b kind nn) j := RD_fr (rdR_row (rdR_rf z) hq hb hn) (tkE_row z q b kind nn) h
theorem RD_fill {bf : Nat → Int} {ln n m hi j b k : Nat} {F : Nat → Int → Bool} {z : RS} {g : Nat → Int64} (h : RD bf ln F n m hi z j) : RD bf ln F n m hi (fillS z b k g) j := RD_I (t := z) (I := z.2.2.1) (J := va_up z.2.2.2 0 (fb b k g (z.2.2.2 0))) h rfl (up_ne _ _ (by decide))
set_option maxRecDepth 20000 in
theorem pm_X12_expression : mj_mmof pg_ms 221 = some ((⟨"ArrayCalculatorModel", "expression", "()I"⟩, prog_14_method_84_code, 5, (Option.some Jvm.ClassFile.FieldType.int)), 12, false, mj_dec prog_14_method_84_code) := rfl
theorem dm_X12_expression_0 : mj_dec prog_14_method_84_code 0 = some (.iconst (-1), 1) := by decide +kernel
theorem dm_X12_expression_1 : mj_dec prog_14_method_84_code 1 = some (.istore_n 1, 1) := by decide +kernel
theorem dm_X12_expression_2 : mj_dec prog_14_method_84_code 2 = some (.aload_n 0, 1) := by decide +kernel
theorem dm_X12_expression_3 : mj_dec prog_14_method_84_code 3 = some (.getfield 427, 3) := by decide +kernel
theorem dm_X12_expression_6 : mj_dec prog_14_method_84_code 6 = some (.ifCond .ge 210, 3) := by decide +kernel
theorem dm_X12_expression_216 : mj_dec prog_14_method_84_code 216 = some (.iconst (-1), 1) := by decide +kernel
theorem dm_X12_expression_217 : mj_dec prog_14_method_84_code 217 = some (.ireturn, 1) := by decide +kernel
theorem r_exprB {xt : mj_X} {d : Nat} {pre post : mj_H} {s : RS} (hm : pre.length = 102) (hd : 1 ≤ d) (h52 : 0 ≤ s.1 52 ∧ s.1 52 ≤ 1000) : pgV xt d 221 [.ref 102] (rS pre post s) (fun x h' => x = ii (-1) ∧ h' = rS pre post s) := by
  refine x_enter pm_X12_expression (L0 := [(0, .ref 102)]) rfl (Nat.le_of_ble_eq_true rfl) (by omega) ?_
  refine me0 (pc' := 1) (S' := [ii (-1)]) dm_X12_expression_0 rfl rfl rfl rfl ?_
  refine me1 (pc' := 2) (L' := [(1, ii (-1)), (0, .ref 102)]) (S' := []) dm_X12_expression_1 rfl rfl rfl rfl ?_
  refine me1 (pc' := 3) (L' := [(1, ii (-1)), (0, .ref 102)]) (S' := [.ref 102]) dm_X12_expression_2 rfl rfl rfl rfl ?_
  refine me3 (pc' := 6) (S' := [ii (s.1 52)]) dm_X12_expression_3 (q_geti (v := s.1 52) hm rfl (fun m i l => rg_52 m i l) rfl) rfl rfl rfl ?_
  refine y_1ge (a := s.1 52) (t := 216) (pc' := 9) dm_X12_expression_6 rfl rfl (by omega) (fun hb1 => ?_) (fun hb1 => ?_)
  · refine me0 (pc' := 217) (S' := [ii (-1)]) dm_X12_expression_216 rfl rfl rfl rfl ?_
    refine y_ret (r := some (ii (-1))) dm_X12_expression_217 rfl rfl rfl ?_
    exact ⟨_, rfl, rfl, rfl⟩
  · exfalso; omega
set_option maxRecDepth 20000 in
theorem pm_X12_noun : mj_mmof pg_ms 223 = some ((⟨"ArrayCalculatorModel", "noun", "()I"⟩, prog_14_method_85_code, 6, (Option.some Jvm.ClassFile.FieldType.int)), 12, false, mj_dec prog_14_method_85_code) := rfl
theorem dm_X12_noun_285 : mj_dec prog_14_method_85_code 285 = some (.aload_n 0, 1) := by decide +kernel
theorem dm_X12_noun_286 : mj_dec prog_14_method_85_code 286 = some (.getfield 427, 3) := by decide +kernel
theorem dm_X12_noun_289 : mj_dec prog_14_method_85_code 289 = some (.ifCond .ge 58, 3) := by decide +kernel
theorem dm_X12_noun_292 : mj_dec prog_14_method_85_code 292 = some (.aload_n 0, 1) := by decide +kernel
theorem dm_X12_noun_293 : mj_dec prog_14_method_85_code 293 = some (.bipush 64, 2) := by decide +kernel
theorem dm_X12_noun_295 : mj_dec prog_14_method_85_code 295 = some (.invokevirtual 469, 3) := by decide +kernel
theorem dm_X12_noun_298 : mj_dec prog_14_method_85_code 298 = some (.ifCond .eq 49, 3) := by decide +kernel
theorem dm_X12_noun_301 : mj_dec prog_14_method_85_code 301 = some (.aload_n 0, 1) := by decide +kernel
theorem dm_X12_noun_302 : mj_dec prog_14_method_85_code 302 = some (.invokevirtual 472, 3) := by decide +kernel
theorem dm_X12_noun_305 : mj_dec prog_14_method_85_code 305 = some (.ifCond .eq 42, 3) := by decide +kernel
theorem dm_X12_noun_308 : mj_dec prog_14_method_85_code 308 = some (.aload_n 0, 1) := by decide +kernel
theorem dm_X12_noun_309 : mj_dec prog_14_method_85_code 309 = some (.getfield 386, 3) := by decide +kernel
theorem dm_X12_noun_312 : mj_dec prog_14_method_85_code 312 = some (.istore_n 3, 1) := by decide +kernel
theorem dm_X12_noun_313 : mj_dec prog_14_method_85_code 313 = some (.aload_n 0, 1) := by decide +kernel
theorem dm_X12_noun_314 : mj_dec prog_14_method_85_code 314 = some (.invokevirtual 437, 3) := by decide +kernel
theorem dm_X12_noun_317 : mj_dec prog_14_method_85_code 317 = some (.aload_n 0, 1) := by decide +kernel
theorem dm_X12_noun_318 : mj_dec prog_14_method_85_code 318 = some (.invokevirtual 457, 3) := by decide +kernel
theorem dm_X12_noun_321 : mj_dec prog_14_method_85_code 321 = some (.aload_n 0, 1) := by decide +kernel
theorem dm_X12_noun_322 : mj_dec prog_14_method_85_code 322 = some (.invokevirtual 460, 3) := by decide +kernel
theorem dm_X12_noun_325 : mj_dec prog_14_method_85_code 325 = some (.istore 4, 2) := by decide +kernel
theorem dm_X12_noun_327 : mj_dec prog_14_method_85_code 327 = some (.aload_n 0, 1) := by decide +kernel
theorem dm_X12_noun_328 : mj_dec prog_14_method_85_code 328 = some (.bipush 41, 2) := by decide +kernel
theorem dm_X12_noun_330 : mj_dec prog_14_method_85_code 330 = some (.invokevirtual 466, 3) := by decide +kernel
theorem dm_X12_noun_333 : mj_dec prog_14_method_85_code 333 = some (.aload_n 0, 1) := by decide +kernel
theorem dm_X12_noun_334 : mj_dec prog_14_method_85_code 334 = some (.iconst 5, 1) := by decide +kernel
theorem dm_X12_noun_335 : mj_dec prog_14_method_85_code 335 = some (.iload_n 2, 1) := by decide +kernel
theorem dm_X12_noun_336 : mj_dec prog_14_method_85_code 336 = some (.iload 4, 2) := by decide +kernel
theorem dm_X12_noun_338 : mj_dec prog_14_method_85_code 338 = some (.iconst 0, 1) := by decide +kernel
theorem dm_X12_noun_339 : mj_dec prog_14_method_85_code 339 = some (.iload_n 3, 1) := by decide +kernel
theorem dm_X12_noun_340 : mj_dec prog_14_method_85_code 340 = some (.invokevirtual 450, 3) := by decide +kernel
theorem dm_X12_noun_343 : mj_dec prog_14_method_85_code 343 = some (.istore_n 2, 1) := by decide +kernel
theorem dm_X12_noun_344 : mj_dec prog_14_method_85_code 344 = some (.goto (-59), 3) := by decide +kernel
theorem dm_X12_noun_347 : mj_dec prog_14_method_85_code 347 = some (.iload_n 2, 1) := by decide +kernel
theorem dm_X12_noun_348 : mj_dec prog_14_method_85_code 348 = some (.ireturn, 1) := by decide +kernel
theorem r_nounT {xt : mj_X} {d o f : Nat} {pre post : mj_H} {s : RS} {bf : Nat → Int} {ln n m hi i mk : Nat} {F : Nat → Int → Bool} {T : Nat → Tok} (hm : pre.length = 102) (hd : 6 * (12 - o) + 19 ≤ d) (hT : T = tkI bf ln F) (hK : TOKS T mk ln) (hE : ∀ g, g ≤ f + 2 → RE xt pre post bf ln F T mk n m hi g) (hRM : RM T ln s i) (ho12 : o ≤ 12) (hhi : mk ≤ hi) {a0 g0 nq0 : Nat} {z0 : RS} (hJ0 : NJ bf ln F T mk n m hi (f + 2) o i s a0 g0 nq0 z0) : pgE xt (d - 1) 12 6 false (Option.some Jvm.ClassFile.FieldType.int) (mj_dec prog_14_method_85_code) 285 [(0, .ref 102), (2, ii ((nq0 : Nat) : Int))] [] (rI pre post z0.1 z0.2.1 z0.2.2.1 z0.2.2.2) (fun r h' => ∃ x, r = some x ∧ RQ pre post bf ln F T n m hi s (f + 3) 1 o i 0 x h') := by
  have hln := hK.2.1
  have hmk200 := hK.1
  have lp285 : ∀ (n285 : Nat) (a : Nat) (g : Nat) (nq : Nat) (z : RS), mk + 1 - a = n285 → (NJ bf ln F T mk n m hi (f + 2) o i s a g nq z) → pgE xt (d - 1) 12 6 false (Option.some Jvm.ClassFile.FieldType.int) (mj_dec prog_14_method_85_code) 285 [(0, .ref 102), (2, ii ((nq : Nat) : Int))] [] (rI pre post z.1 z.2.1 z.2.2.1 z.2.2.2) (fun r h' => ∃ x, r = some x ∧ RQ pre post bf ln F T n m hi s (f + 3) 1 o i 0 x h') := by
    intro n285
    induction n285 using Nat.strongRecOn with
    | ind n285 ih285 =>
      intro a g nq z hm285 hJ
      obtain ⟨z1, z2, z3, z4, z5, z6, z7, z8, ⟨Bz, z9, z10⟩, z11, -⟩ := id hJ
      have zRM := RM_d hRM z4 z8 (by decide)
      have hg : g = (g - 1) + 1 := by omega
      obtain ⟨y1, y2, y3, y4, y5, y6⟩ := id zRM
      obtain ⟨x1, x2, x3⟩ := id z8
      have zP := P_ln hK a
      refine me1 (pc' := 286) (L' := [(0, .ref 102), (2, ii ((nq : Nat) : Int))]) (S' := [.ref 102]) dm_X12_noun_285 rfl rfl rfl rfl ?_
      refine me3 (pc' := 289) (S' := [ii (z.1 52)]) dm_X12_noun_286 (q_geti (v := z.1 52) hm rfl (fun m i l => rg_52 m i l) rfl) rfl rfl rfl ?_
      refine y_1ge (a := z.1 52) (t := 347) (pc' := 292) dm_X12_noun_289 rfl rfl (by omega) (fun hb1 => ?_) (fun hb1 => ?_)
      · exfalso; omega
      · refine me1 (pc' := 293) (L' := [(0, .ref 102), (2, ii ((nq : Nat) : Int))]) (S' := [.ref 102]) dm_X12_noun_292 rfl rfl rfl rfl ?_
        refine me0 (pc' := 295) (S' := [ii 64, .ref 102]) dm_X12_noun_293 rfl rfl rfl rfl ?_
        refine x_cp (pc' := 298) (v := zz (decide (tqS (T a) = 5 ∧ tqD (T a) = 64))) (rest := []) dm_X12_noun_295 rfl (q_inv (As := [ii 64]) (S := []) hm rfl rfl rfl) rfl rfl rfl (r_vbd_ (i := a) hm (by omega) hT hK z1 (by omega)) ?_
        refine y_zeq (c := decide (tqS (T a) = 5 ∧ tqD (T a) = 64)) (t := 347) (pc' := 301) dm_X12_noun_298 rfl rfl (fun hb2 => ?_) (fun hb2 => ?_)
        · replace hb2 := dF hb2
          refine me1 (pc' := 348) (L' := [(0, .ref 102), (2, ii ((nq : Nat) : Int))]) (S' := [ii ((nq : Nat) : Int)]) dm_X12_noun_347 rfl rfl rfl rfl ?_
          refine y_ret (r := some (ii ((nq : Nat) : Int))) dm_X12_noun_348 rfl rfl rfl ?_
          exact ⟨_, rfl, NJ_e (g := g - 1) (by rw [← hg]; exact hJ) (fun z => by first | exact hb2 z.2.2 | exact hb2 ⟨z.1, z.2.1⟩)⟩
        · replace hb2 := dT hb2
          have hv64 := hb2
          refine me1 (pc' := 302) (L' := [(0, .ref 102), (2, ii ((nq : Nat) : Int))]) (S' := [.ref 102]) dm_X12_noun_301 rfl rfl rfl rfl ?_
          refine x_cp (pc' := 305) (v := zz (decide (isMk T (a + 1) 40))) (rest := []) dm_X12_noun_302 rfl (q_inv (As := []) (S := []) hm rfl rfl rfl) rfl rfl rfl (r_isOpening_ (i := a) hm (by omega) hT hK z1) ?_
          refine y_zeq (c := decide (isMk T (a + 1) 40)) (t := 347) (pc' := 308) dm_X12_noun_305 rfl rfl (fun hb3 => ?_) (fun hb3 => ?_)
          · replace hb3 := dF hb3
            refine me1 (pc' := 348) (L' := [(0, .ref 102), (2, ii ((nq : Nat) : Int))]) (S' := [ii ((nq : Nat) : Int)]) dm_X12_noun_347 rfl rfl rfl rfl ?_
            refine y_ret (r := some (ii ((nq : Nat) : Int))) dm_X12_noun_348 rfl rfl rfl ?_
            exact ⟨_, rfl, NJ_e (g := g - 1) (by rw [← hg]; exact hJ) (fun z => by first | exact hb3 z.2.2 | exact hb3 ⟨z.1, z.2.1⟩)⟩
          · replace hb3 := dT hb3
            have hix : isIx T a := ⟨hv64.1, hv64.2, hb3⟩
            have hla := TOKS_lt hK (i := a) (by have := hix.1; omega)
            have hla1 := TOKS_lt hK (i := a + 1) (by have := hix.2.2.1; omega)
            have hPa := hK.2.2.2.2.2.2.1 a hla
            have hPa1 : tqP (T (a + 1)) + 1 ≤ tqP (T (a + 2)) := hK.2.2.2.2.2.2.1 (a + 1) hla1
            have hPa2 := P_ln hK (a + 2)
            have h39 : z.1 39 = ((tqP (T a) : Nat) : Int) := by rw [hT]; exact (RD_38 z1).2
            refine me1 (pc' := 309) (L' := [(0, .ref 102), (2, ii ((nq : Nat) : Int))]) (S' := [.ref 102]) dm_X12_noun_308 rfl rfl rfl rfl ?_
            refine me3 (pc' := 312) (S' := [ii (z.1 39)]) dm_X12_noun_309 (q_geti (v := z.1 39) hm rfl (fun m i l => rg_39 m i l) rfl) rfl rfl rfl ?_
            refine pg_st0 (S' := [ii ((tqP (T a) : Nat) : Int)]) (congrArg (fun z => ii z :: []) (h39)) ?_
            refine me1 (pc' := 313) (L' := [(3, ii ((tqP (T a) : Nat) : Int)), (0, .ref 102), (2, ii ((nq : Nat) : Int))]) (S' := []) dm_X12_noun_312 rfl rfl rfl rfl ?_
            refine me1 (pc' := 314) (L' := [(3, ii ((tqP (T a) : Nat) : Int)), (0, .ref 102), (2, ii ((nq : Nat) : Int))]) (S' := [.ref 102]) dm_X12_noun_313 rfl rfl rfl rfl ?_
            refine x_cn (pc' := 317) (rest := []) dm_X12_noun_314 rfl (q_inv (As := []) (S := []) hm rfl rfl rfl) rfl rfl rfl (r_nxt (s := z) (i := a) hm (by omega) z1 (by omega)) ?_
            rintro _ ⟨t0, rfl, hk0, t0D⟩
            have h0 := rdT_tk hk0
            obtain ⟨-, k03, k04, k05, -⟩ := id h0
            have t051 : t0.1 51 = (o : Int) := (hk0.2.2.1 51 (by decide)).trans z2
            have t052 : t0.1 52 = -1 := (hk0.2.2.1 52 (by decide)).trans z3
            refine me1 (pc' := 318) (L' := [(3, ii ((tqP (T a) : Nat) : Int)), (0, .ref 102), (2, ii ((nq : Nat) : Int))]) (S' := [.ref 102]) dm_X12_noun_317 rfl rfl rfl rfl ?_
            by_cases ho2 : o = 12
            · refine x_cn (pc' := 321) (rest := []) dm_X12_noun_318 rfl (q_inv (As := []) (S := []) hm rfl rfl rfl) rfl rfl rfl (r_opensF (s := t0) (i := a + 1) hm (by omega) hT hK t0D t051 ho2 t052) ?_
              rintro _ ⟨t1, rfl, hk1, h1b⟩
              obtain ⟨-, k13, k14, k15, -⟩ := id hk1
              have bd : 0 ≤ t1.1 52 ∧ t1.1 52 ≤ 1000 := by have := P_ln hK (a + 1); omega
              refine me1 (pc' := 322) (L' := [(3, ii ((tqP (T a) : Nat) : Int)), (0, .ref 102), (2, ii ((nq : Nat) : Int))]) (S' := [.ref 102]) dm_X12_noun_321 rfl rfl rfl rfl ?_
              refine x_cv (pc' := 325) (rest := []) dm_X12_noun_322 rfl (q_inv (As := []) (S := []) hm rfl rfl rfl) rfl rfl rfl (r_exprB (s := t1) hm (by omega) bd) ?_
              rintro _ _ ⟨rfl, rfl⟩
              refine me1 (pc' := 327) (L' := [(4, ii (-1)), (3, ii ((tqP (T a) : Nat) : Int)), (0, .ref 102), (2, ii ((nq : Nat) : Int))]) (S' := []) dm_X12_noun_325 rfl rfl rfl rfl ?_
              refine me1 (pc' := 328) (L' := [(4, ii (-1)), (3, ii ((tqP (T a) : Nat) : Int)), (0, .ref 102), (2, ii ((nq : Nat) : Int))]) (S' := [.ref 102]) dm_X12_noun_327 rfl rfl rfl rfl ?_
              refine me0 (pc' := 330) (S' := [ii 41, .ref 102]) dm_X12_noun_328 rfl rfl rfl rfl ?_
              refine x_cn (pc' := 333) (rest := []) dm_X12_noun_330 rfl (q_inv (As := [ii 41]) (S := []) hm rfl rfl rfl) rfl rfl rfl (r_closesB (s := t1) hm (by omega) bd) ?_
              rintro _ ⟨t7, rfl, kt7, t752⟩
              obtain ⟨-, t7x, t7y, t7z, -⟩ := id kt7
              refine me1 (pc' := 334) (L' := [(4, ii (-1)), (3, ii ((tqP (T a) : Nat) : Int)), (0, .ref 102), (2, ii ((nq : Nat) : Int))]) (S' := [.ref 102]) dm_X12_noun_333 rfl rfl rfl rfl ?_
              refine me0 (pc' := 335) (S' := [ii 5, .ref 102]) dm_X12_noun_334 rfl rfl rfl rfl ?_
              refine me1 (pc' := 336) (L' := [(4, ii (-1)), (3, ii ((tqP (T a) : Nat) : Int)), (0, .ref 102), (2, ii ((nq : Nat) : Int))]) (S' := [ii ((nq : Nat) : Int), ii 5, .ref 102]) dm_X12_noun_335 rfl rfl rfl rfl ?_
              refine me1 (pc' := 338) (L' := [(4, ii (-1)), (3, ii ((tqP (T a) : Nat) : Int)), (0, .ref 102), (2, ii ((nq : Nat) : Int))]) (S' := [ii (-1), ii ((nq : Nat) : Int), ii 5, .ref 102]) dm_X12_noun_336 rfl rfl rfl rfl ?_
              refine me0 (pc' := 339) (S' := [ii 0, ii (-1), ii ((nq : Nat) : Int), ii 5, .ref 102]) dm_X12_noun_338 rfl rfl rfl rfl ?_
              refine me1 (pc' := 340) (L' := [(4, ii (-1)), (3, ii ((tqP (T a) : Nat) : Int)), (0, .ref 102), (2, ii ((nq : Nat) : Int))]) (S' := [ii ((tqP (T a) : Nat) : Int), ii 0, ii (-1), ii ((nq : Nat) : Int), ii 5, .ref 102]) dm_X12_noun_339 rfl rfl rfl rfl ?_
              obtain ⟨N, hN⟩ : ∃ N : Nat, t7.1 50 = (N : Int) := ⟨(t7.1 50).toNat, by omega⟩
              refine x_cv (pc' := 343) (rest := []) dm_X12_noun_340 rfl (q_inv (As := [ii 5, ii ((nq : Nat) : Int), ii (-1), ii 0, ii ((tqP (T a) : Nat) : Int)]) (S := []) hm rfl rfl rfl) rfl rfl rfl (r_node_ (s := t7) (N := N) hm (by omega) hN (by omega)) ?_
              rintro _ _ ⟨rfl, rfl⟩
              have ni := nod_i t7 N 5 ((nq : Nat) : Int) (-1) 0 ((tqP (T a) : Nat) : Int)
              have nr := rdR_nod hN 5 ((nq : Nat) : Int) (-1) 0 ((tqP (T a) : Nat) : Int)
              have n3 := ni.2 3 (by decide)
              have n4 := ni.2 4 (by decide)
              have n52 := ni.2 52 (by decide)
              have n51 := ni.2 51 (by decide)
              have n50 := ni.1
              have na := nod_at t7 N 5 ((nq : Nat) : Int) (-1) 0 ((tqP (T a) : Nat) : Int)
              refine me1 (pc' := 344) (L' := [(2, ii (N : Int)), (4, ii (-1)), (3, ii ((tqP (T a) : Nat) : Int)), (0, .ref 102)]) (S' := []) dm_X12_noun_343 rfl rfl rfl rfl ?_
              refine me2 (pc' := 285) (S' := []) dm_X12_noun_344 rfl rfl rfl ?_
              refine me1 (pc' := 286) (L' := [(2, ii (N : Int)), (4, ii (-1)), (3, ii ((tqP (T a) : Nat) : Int)), (0, .ref 102)]) (S' := [.ref 102]) dm_X12_noun_285 rfl rfl rfl rfl ?_
              refine me3 (pc' := 289) (S' := [ii (((nodS t7 N 5 ((nq : Nat) : Int) (-1) 0 ((tqP (T a) : Nat) : Int)).1) 52)]) dm_X12_noun_286 (q_geti (v := ((nodS t7 N 5 ((nq : Nat) : Int) (-1) 0 ((tqP (T a) : Nat) : Int)).1) 52) hm rfl (fun m i l => rg_52 m i l) rfl) rfl rfl rfl ?_
              refine y_1ge (a := ((nodS t7 N 5 ((nq : Nat) : Int) (-1) 0 ((tqP (T a) : Nat) : Int)).1) 52) (t := 347) (pc' := 292) dm_X12_noun_289 rfl rfl (by omega) (fun hb4 => ?_) (fun hb4 => ?_)
              · refine me1 (pc' := 348) (L' := [(2, ii (N : Int)), (4, ii (-1)), (3, ii ((tqP (T a) : Nat) : Int)), (0, .ref 102)]) (S' := [ii (N : Int)]) dm_X12_noun_347 rfl rfl rfl rfl ?_
                refine y_ret (r := some (ii (N : Int))) dm_X12_noun_348 rfl rfl rfl ?_
                exact ⟨_, rfl, RQ_ie (z7.trans (by rw [hg]; exact pR2_o hix (by omega))) (rdR_tr (rdR_tr (rdR_tr (rdR_tr z4 h0.1) hk1.1) kt7.1) nr) (n52.trans (t752.trans h1b)) ⟨by omega, by omega, by omega⟩⟩
              · exfalso; omega
            · refine x_cn (pc' := 321) (rest := []) dm_X12_noun_318 rfl (q_inv (As := []) (S := []) hm rfl rfl rfl) rfl rfl rfl (r_opensT (s := t0) (i := a + 1) hm (by omega) hT hK t0D t051 (by omega) (by omega)) ?_
              rintro _ ⟨t1, rfl, hk1, t1D, t151, h1b⟩
              obtain ⟨-, k13, k14, k15, -⟩ := id hk1
              have t152 : t1.1 52 = -1 := h1b.trans t052
              have t1RM : RM T ln t1 (a + 1 + 1) := (RM_d zRM (rdR_tr h0.1 hk1.1) (RMd_T (j := a + 2) (rdT_tr h0 hk1) (by omega)) (by omega))
              refine me1 (pc' := 322) (L' := [(3, ii ((tqP (T a) : Nat) : Int)), (0, .ref 102), (2, ii ((nq : Nat) : Int))]) (S' := [.ref 102]) dm_X12_noun_321 rfl rfl rfl rfl ?_
              rcases ei : pR T (g - 1) 0 (o + 1) (a + 2) with p_ei | j_ei
              · refine x_cv (pc' := 325) (rest := []) dm_X12_noun_322 rfl (q_inv (As := []) (S := []) hm rfl rfl rfl) rfl rfl rfl (hE (g - 1) (by omega) _ t1 (a + 2) (o + 1) (by omega) t1D t151 t152 t1RM (by omega) (by omega) (by omega)) ?_
                rintro x_t2 h_t2 hxt2
                obtain ⟨t2, t2v, rfl, rfl, t2R, t252, t2E⟩ := RQ_e ei hxt2
                have hplt2 := pR_ln hK _ _ _ _ _ ei
                have bd : 0 ≤ t2.1 52 ∧ t2.1 52 ≤ 1000 := by omega
                obtain ⟨t2a, t2b, t2c⟩ := id t2E
                have t2_n : t1.1 50 ≤ t2.1 50 := t2R.2.1
                refine me1 (pc' := 327) (L' := [(4, ii t2v), (3, ii ((tqP (T a) : Nat) : Int)), (0, .ref 102), (2, ii ((nq : Nat) : Int))]) (S' := []) dm_X12_noun_325 rfl rfl rfl rfl ?_
                refine me1 (pc' := 328) (L' := [(4, ii t2v), (3, ii ((tqP (T a) : Nat) : Int)), (0, .ref 102), (2, ii ((nq : Nat) : Int))]) (S' := [.ref 102]) dm_X12_noun_327 rfl rfl rfl rfl ?_
                refine me0 (pc' := 330) (S' := [ii 41, .ref 102]) dm_X12_noun_328 rfl rfl rfl rfl ?_
                refine x_cn (pc' := 333) (rest := []) dm_X12_noun_330 rfl (q_inv (As := [ii 41]) (S := []) hm rfl rfl rfl) rfl rfl rfl (r_closesB (s := t2) hm (by omega) bd) ?_
                rintro _ ⟨t7, rfl, kt7, t752⟩
                obtain ⟨-, t7x, t7y, t7z, -⟩ := id kt7
                refine me1 (pc' := 334) (L' := [(4, ii t2v), (3, ii ((tqP (T a) : Nat) : Int)), (0, .ref 102), (2, ii ((nq : Nat) : Int))]) (S' := [.ref 102]) dm_X12_noun_333 rfl rfl rfl rfl ?_
                refine me0 (pc' := 335) (S' := [ii 5, .ref 102]) dm_X12_noun_334 rfl rfl rfl rfl ?_
                refine me1 (pc' := 336) (L' := [(4, ii t2v), (3, ii ((tqP (T a) : Nat) : Int)), (0, .ref 102), (2, ii ((nq : Nat) : Int))]) (S' := [ii ((nq : Nat) : Int), ii 5, .ref 102]) dm_X12_noun_335 rfl rfl rfl rfl ?_
                refine me1 (pc' := 338) (L' := [(4, ii t2v), (3, ii ((tqP (T a) : Nat) : Int)), (0, .ref 102), (2, ii ((nq : Nat) : Int))]) (S' := [ii t2v, ii ((nq : Nat) : Int), ii 5, .ref 102]) dm_X12_noun_336 rfl rfl rfl rfl ?_
                refine me0 (pc' := 339) (S' := [ii 0, ii t2v, ii ((nq : Nat) : Int), ii 5, .ref 102]) dm_X12_noun_338 rfl rfl rfl rfl ?_
                refine me1 (pc' := 340) (L' := [(4, ii t2v), (3, ii ((tqP (T a) : Nat) : Int)), (0, .ref 102), (2, ii ((nq : Nat) : Int))]) (S' := [ii ((tqP (T a) : Nat) : Int), ii 0, ii t2v, ii ((nq : Nat) : Int), ii 5, .ref 102]) dm_X12_noun_339 rfl rfl rfl rfl ?_
                obtain ⟨N, hN⟩ : ∃ N : Nat, t7.1 50 = (N : Int) := ⟨(t7.1 50).toNat, by omega⟩
                refine x_cv (pc' := 343) (rest := []) dm_X12_noun_340 rfl (q_inv (As := [ii 5, ii ((nq : Nat) : Int), ii t2v, ii 0, ii ((tqP (T a) : Nat) : Int)]) (S := []) hm rfl rfl rfl) rfl rfl rfl (r_node_ (s := t7) (N := N) hm (by omega) hN (by omega)) ?_
                rintro _ _ ⟨rfl, rfl⟩
                have ni := nod_i t7 N 5 ((nq : Nat) : Int) t2v 0 ((tqP (T a) : Nat) : Int)
                have nr := rdR_nod hN 5 ((nq : Nat) : Int) t2v 0 ((tqP (T a) : Nat) : Int)
                have n3 := ni.2 3 (by decide)
                have n4 := ni.2 4 (by decide)
                have n52 := ni.2 52 (by decide)
                have n51 := ni.2 51 (by decide)
                have n50 := ni.1
                have na := nod_at t7 N 5 ((nq : Nat) : Int) t2v 0 ((tqP (T a) : Nat) : Int)
                refine me1 (pc' := 344) (L' := [(2, ii (N : Int)), (4, ii t2v), (3, ii ((tqP (T a) : Nat) : Int)), (0, .ref 102)]) (S' := []) dm_X12_noun_343 rfl rfl rfl rfl ?_
                refine me2 (pc' := 285) (S' := []) dm_X12_noun_344 rfl rfl rfl ?_
                refine me1 (pc' := 286) (L' := [(2, ii (N : Int)), (4, ii t2v), (3, ii ((tqP (T a) : Nat) : Int)), (0, .ref 102)]) (S' := [.ref 102]) dm_X12_noun_285 rfl rfl rfl rfl ?_
                refine me3 (pc' := 289) (S' := [ii (((nodS t7 N 5 ((nq : Nat) : Int) t2v 0 ((tqP (T a) : Nat) : Int)).1) 52)]) dm_X12_noun_286 (q_geti (v := ((nodS t7 N 5 ((nq : Nat) : Int) t2v 0 ((tqP (T a) : Nat) : Int)).1) 52) hm rfl (fun m i l => rg_52 m i l) rfl) rfl rfl rfl ?_
                refine y_1ge (a := ((nodS t7 N 5 ((nq : Nat) : Int) t2v 0 ((tqP (T a) : Nat) : Int)).1) 52) (t := 347) (pc' := 292) dm_X12_noun_289 rfl rfl (by omega) (fun hb5 => ?_) (fun hb5 => ?_)
                · refine me1 (pc' := 348) (L' := [(2, ii (N : Int)), (4, ii t2v), (3, ii ((tqP (T a) : Nat) : Int)), (0, .ref 102)]) (S' := [ii (N : Int)]) dm_X12_noun_347 rfl rfl rfl rfl ?_
                  refine y_ret (r := some (ii (N : Int))) dm_X12_noun_348 rfl rfl rfl ?_
                  exact ⟨_, rfl, RQ_ie (z7.trans (by rw [hg]; exact pR2_e hix (by omega) ei)) (rdR_tr (rdR_tr (rdR_tr (rdR_tr z4 (rdR_tr h0.1 hk1.1)) t2R) kt7.1) nr) (n52.trans (t752.trans t252)) ⟨by omega, by omega, by omega⟩⟩
                · exfalso; omega
              · refine x_cv (pc' := 325) (rest := []) dm_X12_noun_322 rfl (q_inv (As := []) (S := []) hm rfl rfl rfl) rfl rfl rfl (hE (g - 1) (by omega) _ t1 (a + 2) (o + 1) (by omega) t1D t151 t152 t1RM (by omega) (by omega) (by omega)) ?_
                rintro x_t2 h_t2 hxt2
                obtain ⟨t2, rfl, t2R, t2D, t251, t252, t2M, nei, Bei, rfl, t2p, t2q, t2B, t2C⟩ := RQ_v ei hxt2
                have t2M : RMd T t1 t2 (a + 2) j_ei 0 (-1) := t2M
                have hjei := pR_mk hK _ 0 _ _ _ (show a + 2 ≤ mk by omega) ei
                have hjjei := hjei.2.2 (by decide)
                obtain ⟨t2a, t2b, t2c⟩ := id t2M
                have P_ei := P_ln hK j_ei
                have t2_n : t1.1 50 ≤ t2.1 50 := t2R.2.1
                refine me1 (pc' := 327) (L' := [(4, ii (nei : Int)), (3, ii ((tqP (T a) : Nat) : Int)), (0, .ref 102), (2, ii ((nq : Nat) : Int))]) (S' := []) dm_X12_noun_325 rfl rfl rfl rfl ?_
                refine me1 (pc' := 328) (L' := [(4, ii (nei : Int)), (3, ii ((tqP (T a) : Nat) : Int)), (0, .ref 102), (2, ii ((nq : Nat) : Int))]) (S' := [.ref 102]) dm_X12_noun_327 rfl rfl rfl rfl ?_
                refine me0 (pc' := 330) (S' := [ii 41, .ref 102]) dm_X12_noun_328 rfl rfl rfl rfl ?_
                by_cases hmi : isMk T j_ei 41
                · have lhmi := TOKS_lt hK (i := j_ei) (by have := hmi.1; omega)
                  have Phmi := hK.2.2.2.2.2.2.1 j_ei lhmi
                  have Qhmi := P_ln hK (j_ei + 1)
                  refine x_cn (pc' := 333) (rest := []) dm_X12_noun_330 rfl (q_inv (As := [ii 41]) (S := []) hm rfl rfl rfl) rfl rfl rfl (r_closesT (s := t2) (i := j_ei) (o := o) hm (by omega) hT hK t2D (by decide) t251 t252 hmi (by omega)) ?_
                  rintro _ ⟨t7, rfl, kt7, t7D, t751, t752⟩
                  obtain ⟨-, t7x, t7y, t7z, -⟩ := id kt7
                  refine me1 (pc' := 334) (L' := [(4, ii (nei : Int)), (3, ii ((tqP (T a) : Nat) : Int)), (0, .ref 102), (2, ii ((nq : Nat) : Int))]) (S' := [.ref 102]) dm_X12_noun_333 rfl rfl rfl rfl ?_
                  refine me0 (pc' := 335) (S' := [ii 5, .ref 102]) dm_X12_noun_334 rfl rfl rfl rfl ?_
                  refine me1 (pc' := 336) (L' := [(4, ii (nei : Int)), (3, ii ((tqP (T a) : Nat) : Int)), (0, .ref 102), (2, ii ((nq : Nat) : Int))]) (S' := [ii ((nq : Nat) : Int), ii 5, .ref 102]) dm_X12_noun_335 rfl rfl rfl rfl ?_
                  refine me1 (pc' := 338) (L' := [(4, ii (nei : Int)), (3, ii ((tqP (T a) : Nat) : Int)), (0, .ref 102), (2, ii ((nq : Nat) : Int))]) (S' := [ii (nei : Int), ii ((nq : Nat) : Int), ii 5, .ref 102]) dm_X12_noun_336 rfl rfl rfl rfl ?_
                  refine me0 (pc' := 339) (S' := [ii 0, ii (nei : Int), ii ((nq : Nat) : Int), ii 5, .ref 102]) dm_X12_noun_338 rfl rfl rfl rfl ?_
                  refine me1 (pc' := 340) (L' := [(4, ii (nei : Int)), (3, ii ((tqP (T a) : Nat) : Int)), (0, .ref 102), (2, ii ((nq : Nat) : Int))]) (S' := [ii ((tqP (T a) : Nat) : Int), ii 0, ii (nei : Int), ii ((nq : Nat) : Int), ii 5, .ref 102]) dm_X12_noun_339 rfl rfl rfl rfl ?_
                  obtain ⟨N, hN⟩ : ∃ N : Nat, t7.1 50 = (N : Int) := ⟨(t7.1 50).toNat, by omega⟩
                  refine x_cv (pc' := 343) (rest := []) dm_X12_noun_340 rfl (q_inv (As := [ii 5, ii ((nq : Nat) : Int), ii (nei : Int), ii 0, ii ((tqP (T a) : Nat) : Int)]) (S := []) hm rfl rfl rfl) rfl rfl rfl (r_node_ (s := t7) (N := N) hm (by omega) hN (by omega)) ?_
                  rintro _ _ ⟨rfl, rfl⟩
                  have ni := nod_i t7 N 5 ((nq : Nat) : Int) (nei : Int) 0 ((tqP (T a) : Nat) : Int)
                  have nr := rdR_nod hN 5 ((nq : Nat) : Int) (nei : Int) 0 ((tqP (T a) : Nat) : Int)
                  have n3 := ni.2 3 (by decide)
                  have n4 := ni.2 4 (by decide)
                  have n52 := ni.2 52 (by decide)
                  have n51 := ni.2 51 (by decide)
                  have n50 := ni.1
                  have na := nod_at t7 N 5 ((nq : Nat) : Int) (nei : Int) 0 ((tqP (T a) : Nat) : Int)
                  refine me1 (pc' := 344) (L' := [(2, ii (N : Int)), (4, ii (nei : Int)), (3, ii ((tqP (T a) : Nat) : Int)), (0, .ref 102)]) (S' := []) dm_X12_noun_343 rfl rfl rfl rfl ?_
                  refine me2 (pc' := 285) (S' := []) dm_X12_noun_344 rfl rfl rfl ?_
                  exact pg_sub (L := [(0, .ref 102), (2, ii ((N : Nat) : Int))]) rfl rfl rfl (ih285 (mk + 1 - (j_ei + 1)) (by omega) (j_ei + 1) (g - 1) N (nodS t7 N 5 ((nq : Nat) : Int) (nei : Int) 0 ((tqP (T a) : Nat) : Int)) rfl (NJ_s (g := g - 1) (w := nodS t7 N 5 ((nq : Nat) : Int) (nei : Int) 0 ((tqP (T a) : Nat) : Int)) hK (by rw [← hg]; exact hJ) hix (by omega) ei hmi ⟨by omega, by omega⟩ (rdT_tr h0 hk1) t2R t2M t2q t2B t2C kt7 hN rfl t7D t751 t752))
                · refine x_cn (pc' := 333) (rest := []) dm_X12_noun_330 rfl (q_inv (As := [ii 41]) (S := []) hm rfl rfl rfl) rfl rfl rfl (r_closesF (s := t2) (i := j_ei) hm (by omega) hT hK t2D (by decide) t252 hmi) ?_
                  rintro _ ⟨t7, rfl, kt7, t752⟩
                  obtain ⟨-, t7x, t7y, t7z, -⟩ := id kt7
                  have bd : 0 ≤ t7.1 52 ∧ t7.1 52 ≤ 1000 := by omega
                  refine me1 (pc' := 334) (L' := [(4, ii (nei : Int)), (3, ii ((tqP (T a) : Nat) : Int)), (0, .ref 102), (2, ii ((nq : Nat) : Int))]) (S' := [.ref 102]) dm_X12_noun_333 rfl rfl rfl rfl ?_
                  refine me0 (pc' := 335) (S' := [ii 5, .ref 102]) dm_X12_noun_334 rfl rfl rfl rfl ?_
                  refine me1 (pc' := 336) (L' := [(4, ii (nei : Int)), (3, ii ((tqP (T a) : Nat) : Int)), (0, .ref 102), (2, ii ((nq : Nat) : Int))]) (S' := [ii ((nq : Nat) : Int), ii 5, .ref 102]) dm_X12_noun_335 rfl rfl rfl rfl ?_
                  refine me1 (pc' := 338) (L' := [(4, ii (nei : Int)), (3, ii ((tqP (T a) : Nat) : Int)), (0, .ref 102), (2, ii ((nq : Nat) : Int))]) (S' := [ii (nei : Int), ii ((nq : Nat) : Int), ii 5, .ref 102]) dm_X12_noun_336 rfl rfl rfl rfl ?_
                  refine me0 (pc' := 339) (S' := [ii 0, ii (nei : Int), ii ((nq : Nat) : Int), ii 5, .ref 102]) dm_X12_noun_338 rfl rfl rfl rfl ?_
                  refine me1 (pc' := 340) (L' := [(4, ii (nei : Int)), (3, ii ((tqP (T a) : Nat) : Int)), (0, .ref 102), (2, ii ((nq : Nat) : Int))]) (S' := [ii ((tqP (T a) : Nat) : Int), ii 0, ii (nei : Int), ii ((nq : Nat) : Int), ii 5, .ref 102]) dm_X12_noun_339 rfl rfl rfl rfl ?_
                  obtain ⟨N, hN⟩ : ∃ N : Nat, t7.1 50 = (N : Int) := ⟨(t7.1 50).toNat, by omega⟩
                  refine x_cv (pc' := 343) (rest := []) dm_X12_noun_340 rfl (q_inv (As := [ii 5, ii ((nq : Nat) : Int), ii (nei : Int), ii 0, ii ((tqP (T a) : Nat) : Int)]) (S := []) hm rfl rfl rfl) rfl rfl rfl (r_node_ (s := t7) (N := N) hm (by omega) hN (by omega)) ?_
                  rintro _ _ ⟨rfl, rfl⟩
                  have ni := nod_i t7 N 5 ((nq : Nat) : Int) (nei : Int) 0 ((tqP (T a) : Nat) : Int)
                  have nr := rdR_nod hN 5 ((nq : Nat) : Int) (nei : Int) 0 ((tqP (T a) : Nat) : Int)
                  have n3 := ni.2 3 (by decide)
                  have n4 := ni.2 4 (by decide)
                  have n52 := ni.2 52 (by decide)
                  have n51 := ni.2 51 (by decide)
                  have n50 := ni.1
                  have na := nod_at t7 N 5 ((nq : Nat) : Int) (nei : Int) 0 ((tqP (T a) : Nat) : Int)
                  refine me1 (pc' := 344) (L' := [(2, ii (N : Int)), (4, ii (nei : Int)), (3, ii ((tqP (T a) : Nat) : Int)), (0, .ref 102)]) (S' := []) dm_X12_noun_343 rfl rfl rfl rfl ?_
                  refine me2 (pc' := 285) (S' := []) dm_X12_noun_344 rfl rfl rfl ?_
                  refine me1 (pc' := 286) (L' := [(2, ii (N : Int)), (4, ii (nei : Int)), (3, ii ((tqP (T a) : Nat) : Int)), (0, .ref 102)]) (S' := [.ref 102]) dm_X12_noun_285 rfl rfl rfl rfl ?_
                  refine me3 (pc' := 289) (S' := [ii (((nodS t7 N 5 ((nq : Nat) : Int) (nei : Int) 0 ((tqP (T a) : Nat) : Int)).1) 52)]) dm_X12_noun_286 (q_geti (v := ((nodS t7 N 5 ((nq : Nat) : Int) (nei : Int) 0 ((tqP (T a) : Nat) : Int)).1) 52) hm rfl (fun m i l => rg_52 m i l) rfl) rfl rfl rfl ?_
                  refine y_1ge (a := ((nodS t7 N 5 ((nq : Nat) : Int) (nei : Int) 0 ((tqP (T a) : Nat) : Int)).1) 52) (t := 347) (pc' := 292) dm_X12_noun_289 rfl rfl (by omega) (fun hb6 => ?_) (fun hb6 => ?_)
                  · refine me1 (pc' := 348) (L' := [(2, ii (N : Int)), (4, ii (nei : Int)), (3, ii ((tqP (T a) : Nat) : Int)), (0, .ref 102)]) (S' := [ii (N : Int)]) dm_X12_noun_347 rfl rfl rfl rfl ?_
                    refine y_ret (r := some (ii (N : Int))) dm_X12_noun_348 rfl rfl rfl ?_
                    exact ⟨_, rfl, RQ_ie (z7.trans (by rw [hg]; exact pR2_x hix (by omega) ei hmi)) (rdR_tr (rdR_tr (rdR_tr (rdR_tr z4 (rdR_tr h0.1 hk1.1)) t2R) kt7.1) nr) (n52.trans t752) ⟨by omega, by omega, by omega⟩⟩
                  · exfalso; omega
  exact pg_sub (L := [(0, .ref 102), (2, ii ((nq0 : Nat) : Int))]) rfl rfl rfl (lp285 _ a0 g0 nq0 z0 rfl hJ0)
def keS (y : RS) (N : Nat) (x : Int64) : RS := (y.1, y.2.1, y.2.2.1, va_up y.2.2.2 49 (va_up (y.2.2.2 49) N x))
theorem ke_at (y : RS) (N : Nat) (x : Int64) : (keS y N x).2.2.2 49 N = x := by
  show va_up y.2.2.2 49 (va_up (y.2.2.2 49) N x) 49 N = x
  rw [up_eq, up_eq]
theorem rdR_ke {s y : RS} {N : Nat} {x : Int64} (h : rdR s y) (hN : s.1 50 ≤ (N : Int)) : rdR s (keS y N x) := rdR_I h (fun _ _ _ => rfl) (fun k z hz => va2_ne _ _ _ _ _ _ (by omega))
theorem RD_ke {bf : Nat → Int} {ln n m hi j N : Nat} {F : Nat → Int → Bool} {z : RS} {x : Int64} (h : RD bf ln F n m hi z j) : RD bf ln F n m hi (keS z N x) j := RD_I (t := z) (I := z.2.2.1) (J := va_up z.2.2.2 49 (va_up (z.2.2.2 49) N x)) h rfl (up_ne _ _ (by decide))
theorem fillS_cg {s : RS} {b n : Nat} {g g' : Nat → Int64} (h : ∀ k, k < n → g k = g' k) : fillS s b n g = fillS s b n g' := by
  unfold fillS
  have : fb b n g (s.2.2.2 0) = fb b n g' (s.2.2.2 0) := by
    funext j
    unfold fb
    by_cases z : b ≤ j ∧ j < b + n
    · rw [if_pos z, if_pos z, h (j - b) (by omega)]
    · rw [if_neg z, if_neg z]
  rw [this]
theorem vform_r (n : Nat) (g : Nat → Int64) : 4 ≤ vform n g ∧ vform n g ≤ 5 := by unfold vform; split <;> omega
theorem dm_X12_noun_0 : mj_dec prog_14_method_85_code 0 = some (.aload_n 0, 1) := by decide +kernel
theorem dm_X12_noun_1 : mj_dec prog_14_method_85_code 1 = some (.getfield 386, 3) := by decide +kernel
theorem dm_X12_noun_4 : mj_dec prog_14_method_85_code 4 = some (.istore_n 1, 1) := by decide +kernel
theorem dm_X12_noun_5 : mj_dec prog_14_method_85_code 5 = some (.iconst (-1), 1) := by decide +kernel
theorem dm_X12_noun_6 : mj_dec prog_14_method_85_code 6 = some (.istore_n 2, 1) := by decide +kernel
theorem dm_X12_noun_7 : mj_dec prog_14_method_85_code 7 = some (.aload_n 0, 1) := by decide +kernel
theorem dm_X12_noun_8 : mj_dec prog_14_method_85_code 8 = some (.getfield 380, 3) := by decide +kernel
theorem dm_X12_noun_11 : mj_dec prog_14_method_85_code 11 = some (.iconst 1, 1) := by decide +kernel
theorem dm_X12_noun_12 : mj_dec prog_14_method_85_code 12 = some (.if_icmp .ne 80, 3) := by decide +kernel
theorem dm_X12_noun_15 : mj_dec prog_14_method_85_code 15 = some (.aload_n 0, 1) := by decide +kernel
theorem dm_X12_noun_16 : mj_dec prog_14_method_85_code 16 = some (.getfield 119, 3) := by decide +kernel
theorem dm_X12_noun_19 : mj_dec prog_14_method_85_code 19 = some (.istore_n 3, 1) := by decide +kernel
theorem dm_X12_noun_20 : mj_dec prog_14_method_85_code 20 = some (.iconst 0, 1) := by decide +kernel
theorem dm_X12_noun_21 : mj_dec prog_14_method_85_code 21 = some (.istore 4, 2) := by decide +kernel
theorem dm_X12_noun_23 : mj_dec prog_14_method_85_code 23 = some (.aload_n 0, 1) := by decide +kernel
theorem dm_X12_noun_24 : mj_dec prog_14_method_85_code 24 = some (.getfield 380, 3) := by decide +kernel
theorem dm_X12_noun_27 : mj_dec prog_14_method_85_code 27 = some (.iconst 1, 1) := by decide +kernel
theorem dm_X12_noun_28 : mj_dec prog_14_method_85_code 28 = some (.if_icmp .ne 26, 3) := by decide +kernel
theorem dm_X12_noun_31 : mj_dec prog_14_method_85_code 31 = some (.aload_n 0, 1) := by decide +kernel
theorem dm_X12_noun_32 : mj_dec prog_14_method_85_code 32 = some (.getfield 8, 3) := by decide +kernel
theorem dm_X12_noun_35 : mj_dec prog_14_method_85_code 35 = some (.iload_n 3, 1) := by decide +kernel
theorem dm_X12_noun_36 : mj_dec prog_14_method_85_code 36 = some (.iload 4, 2) := by decide +kernel
theorem dm_X12_noun_38 : mj_dec prog_14_method_85_code 38 = some (.iadd, 1) := by decide +kernel
theorem dm_X12_noun_39 : mj_dec prog_14_method_85_code 39 = some (.aload_n 0, 1) := by decide +kernel
theorem dm_X12_noun_40 : mj_dec prog_14_method_85_code 40 = some (.getfield 417, 3) := by decide +kernel
theorem dm_X12_noun_43 : mj_dec prog_14_method_85_code 43 = some (.lastore, 1) := by decide +kernel
theorem dm_X12_noun_44 : mj_dec prog_14_method_85_code 44 = some (.iinc 4 1, 3) := by decide +kernel
theorem dm_X12_noun_47 : mj_dec prog_14_method_85_code 47 = some (.aload_n 0, 1) := by decide +kernel
theorem dm_X12_noun_48 : mj_dec prog_14_method_85_code 48 = some (.invokevirtual 437, 3) := by decide +kernel
theorem dm_X12_noun_51 : mj_dec prog_14_method_85_code 51 = some (.goto (-28), 3) := by decide +kernel
theorem dm_X12_noun_54 : mj_dec prog_14_method_85_code 54 = some (.aload_n 0, 1) := by decide +kernel
theorem dm_X12_noun_55 : mj_dec prog_14_method_85_code 55 = some (.iconst 1, 1) := by decide +kernel
theorem dm_X12_noun_56 : mj_dec prog_14_method_85_code 56 = some (.iload 4, 2) := by decide +kernel
theorem dm_X12_noun_58 : mj_dec prog_14_method_85_code 58 = some (.iconst 1, 1) := by decide +kernel
theorem dm_X12_noun_59 : mj_dec prog_14_method_85_code 59 = some (.if_icmp .ne 12, 3) := by decide +kernel
theorem dm_X12_noun_62 : mj_dec prog_14_method_85_code 62 = some (.aload_n 0, 1) := by decide +kernel
theorem dm_X12_noun_63 : mj_dec prog_14_method_85_code 63 = some (.iconst 0, 1) := by decide +kernel
theorem dm_X12_noun_64 : mj_dec prog_14_method_85_code 64 = some (.iconst 1, 1) := by decide +kernel
theorem dm_X12_noun_65 : mj_dec prog_14_method_85_code 65 = some (.invokevirtual 126, 3) := by decide +kernel
theorem dm_X12_noun_68 : mj_dec prog_14_method_85_code 68 = some (.goto 14, 3) := by decide +kernel
theorem dm_X12_noun_71 : mj_dec prog_14_method_85_code 71 = some (.aload_n 0, 1) := by decide +kernel
theorem dm_X12_noun_72 : mj_dec prog_14_method_85_code 72 = some (.aload_n 0, 1) := by decide +kernel
theorem dm_X12_noun_73 : mj_dec prog_14_method_85_code 73 = some (.iconst 5, 1) := by decide +kernel
theorem dm_X12_noun_74 : mj_dec prog_14_method_85_code 74 = some (.iload 4, 2) := by decide +kernel
theorem dm_X12_noun_76 : mj_dec prog_14_method_85_code 76 = some (.invokevirtual 126, 3) := by decide +kernel
theorem dm_X12_noun_79 : mj_dec prog_14_method_85_code 79 = some (.invokevirtual 205, 3) := by decide +kernel
theorem dm_X12_noun_82 : mj_dec prog_14_method_85_code 82 = some (.iconst 0, 1) := by decide +kernel
theorem dm_X12_noun_83 : mj_dec prog_14_method_85_code 83 = some (.iconst 0, 1) := by decide +kernel
theorem dm_X12_noun_84 : mj_dec prog_14_method_85_code 84 = some (.iload_n 1, 1) := by decide +kernel
theorem dm_X12_noun_85 : mj_dec prog_14_method_85_code 85 = some (.invokevirtual 450, 3) := by decide +kernel
theorem dm_X12_noun_88 : mj_dec prog_14_method_85_code 88 = some (.istore_n 2, 1) := by decide +kernel
theorem dm_X12_noun_89 : mj_dec prog_14_method_85_code 89 = some (.goto 196, 3) := by decide +kernel
theorem dm_X12_noun_92 : mj_dec prog_14_method_85_code 92 = some (.aload_n 0, 1) := by decide +kernel
theorem dm_X12_noun_93 : mj_dec prog_14_method_85_code 93 = some (.getfield 380, 3) := by decide +kernel
theorem dm_X12_noun_96 : mj_dec prog_14_method_85_code 96 = some (.iconst 2, 1) := by decide +kernel
theorem dm_X12_noun_97 : mj_dec prog_14_method_85_code 97 = some (.if_icmp .ne 84, 3) := by decide +kernel
theorem dm_X12_noun_100 : mj_dec prog_14_method_85_code 100 = some (.aload_n 0, 1) := by decide +kernel
theorem dm_X12_noun_101 : mj_dec prog_14_method_85_code 101 = some (.getfield 414, 3) := by decide +kernel
theorem dm_X12_noun_104 : mj_dec prog_14_method_85_code 104 = some (.istore_n 3, 1) := by decide +kernel
theorem dm_X12_noun_105 : mj_dec prog_14_method_85_code 105 = some (.aload_n 0, 1) := by decide +kernel
theorem dm_X12_noun_106 : mj_dec prog_14_method_85_code 106 = some (.iload_n 3, 1) := by decide +kernel
theorem dm_X12_noun_107 : mj_dec prog_14_method_85_code 107 = some (.iconst 1, 1) := by decide +kernel
theorem dm_X12_noun_108 : mj_dec prog_14_method_85_code 108 = some (.if_icmp .ne 7, 3) := by decide +kernel
theorem dm_X12_noun_111 : mj_dec prog_14_method_85_code 111 = some (.iconst 1, 1) := by decide +kernel
theorem dm_X12_noun_112 : mj_dec prog_14_method_85_code 112 = some (.goto 4, 3) := by decide +kernel
theorem dm_X12_noun_115 : mj_dec prog_14_method_85_code 115 = some (.iconst 3, 1) := by decide +kernel
theorem dm_X12_noun_116 : mj_dec prog_14_method_85_code 116 = some (.iload_n 3, 1) := by decide +kernel
theorem dm_X12_noun_117 : mj_dec prog_14_method_85_code 117 = some (.invokevirtual 126, 3) := by decide +kernel
theorem dm_X12_noun_120 : mj_dec prog_14_method_85_code 120 = some (.istore 4, 2) := by decide +kernel
theorem dm_X12_noun_122 : mj_dec prog_14_method_85_code 122 = some (.iconst 0, 1) := by decide +kernel
theorem dm_X12_noun_123 : mj_dec prog_14_method_85_code 123 = some (.istore 5, 2) := by decide +kernel
theorem dm_X12_noun_125 : mj_dec prog_14_method_85_code 125 = some (.iload 5, 2) := by decide +kernel
theorem dm_X12_noun_127 : mj_dec prog_14_method_85_code 127 = some (.iload_n 3, 1) := by decide +kernel
theorem dm_X12_noun_128 : mj_dec prog_14_method_85_code 128 = some (.if_icmp .ge 35, 3) := by decide +kernel
theorem dm_X12_noun_131 : mj_dec prog_14_method_85_code 131 = some (.aload_n 0, 1) := by decide +kernel
theorem dm_X12_noun_132 : mj_dec prog_14_method_85_code 132 = some (.getfield 8, 3) := by decide +kernel
theorem dm_X12_noun_135 : mj_dec prog_14_method_85_code 135 = some (.aload_n 0, 1) := by decide +kernel
theorem dm_X12_noun_136 : mj_dec prog_14_method_85_code 136 = some (.getfield 15, 3) := by decide +kernel
theorem dm_X12_noun_139 : mj_dec prog_14_method_85_code 139 = some (.iload 4, 2) := by decide +kernel
theorem dm_X12_noun_141 : mj_dec prog_14_method_85_code 141 = some (.iaload, 1) := by decide +kernel
theorem dm_X12_noun_142 : mj_dec prog_14_method_85_code 142 = some (.iload 5, 2) := by decide +kernel
theorem dm_X12_noun_144 : mj_dec prog_14_method_85_code 144 = some (.iadd, 1) := by decide +kernel
theorem dm_X12_noun_145 : mj_dec prog_14_method_85_code 145 = some (.aload_n 0, 1) := by decide +kernel
theorem dm_X12_noun_146 : mj_dec prog_14_method_85_code 146 = some (.iload_n 1, 1) := by decide +kernel
theorem dm_X12_noun_147 : mj_dec prog_14_method_85_code 147 = some (.iconst 1, 1) := by decide +kernel
theorem dm_X12_noun_148 : mj_dec prog_14_method_85_code 148 = some (.iadd, 1) := by decide +kernel
theorem dm_X12_noun_149 : mj_dec prog_14_method_85_code 149 = some (.iload 5, 2) := by decide +kernel
theorem dm_X12_noun_151 : mj_dec prog_14_method_85_code 151 = some (.iadd, 1) := by decide +kernel
theorem dm_X12_noun_152 : mj_dec prog_14_method_85_code 152 = some (.invokevirtual 373, 3) := by decide +kernel
theorem dm_X12_noun_155 : mj_dec prog_14_method_85_code 155 = some (.i2l, 1) := by decide +kernel
theorem dm_X12_noun_156 : mj_dec prog_14_method_85_code 156 = some (.lastore, 1) := by decide +kernel
theorem dm_X12_noun_157 : mj_dec prog_14_method_85_code 157 = some (.iinc 5 1, 3) := by decide +kernel
theorem dm_X12_noun_160 : mj_dec prog_14_method_85_code 160 = some (.goto (-35), 3) := by decide +kernel
theorem dm_X12_noun_163 : mj_dec prog_14_method_85_code 163 = some (.aload_n 0, 1) := by decide +kernel
theorem dm_X12_noun_164 : mj_dec prog_14_method_85_code 164 = some (.iconst 1, 1) := by decide +kernel
theorem dm_X12_noun_165 : mj_dec prog_14_method_85_code 165 = some (.iload 4, 2) := by decide +kernel
theorem dm_X12_noun_167 : mj_dec prog_14_method_85_code 167 = some (.iconst 0, 1) := by decide +kernel
theorem dm_X12_noun_168 : mj_dec prog_14_method_85_code 168 = some (.iconst 0, 1) := by decide +kernel
theorem dm_X12_noun_169 : mj_dec prog_14_method_85_code 169 = some (.iload_n 1, 1) := by decide +kernel
theorem dm_X12_noun_170 : mj_dec prog_14_method_85_code 170 = some (.invokevirtual 450, 3) := by decide +kernel
theorem dm_X12_noun_173 : mj_dec prog_14_method_85_code 173 = some (.istore_n 2, 1) := by decide +kernel
theorem dm_X12_noun_174 : mj_dec prog_14_method_85_code 174 = some (.aload_n 0, 1) := by decide +kernel
theorem dm_X12_noun_175 : mj_dec prog_14_method_85_code 175 = some (.invokevirtual 437, 3) := by decide +kernel
theorem dm_X12_noun_178 : mj_dec prog_14_method_85_code 178 = some (.goto 107, 3) := by decide +kernel
theorem dm_X12_noun_181 : mj_dec prog_14_method_85_code 181 = some (.aload_n 0, 1) := by decide +kernel
theorem dm_X12_noun_182 : mj_dec prog_14_method_85_code 182 = some (.getfield 380, 3) := by decide +kernel
theorem dm_X12_noun_185 : mj_dec prog_14_method_85_code 185 = some (.iconst 3, 1) := by decide +kernel
theorem dm_X12_noun_186 : mj_dec prog_14_method_85_code 186 = some (.if_icmp .ne 30, 3) := by decide +kernel
theorem dm_X12_noun_189 : mj_dec prog_14_method_85_code 189 = some (.aload_n 0, 1) := by decide +kernel
theorem dm_X12_noun_190 : mj_dec prog_14_method_85_code 190 = some (.iconst 2, 1) := by decide +kernel
theorem dm_X12_noun_191 : mj_dec prog_14_method_85_code 191 = some (.iconst 0, 1) := by decide +kernel
theorem dm_X12_noun_192 : mj_dec prog_14_method_85_code 192 = some (.iconst 0, 1) := by decide +kernel
theorem dm_X12_noun_193 : mj_dec prog_14_method_85_code 193 = some (.iconst 0, 1) := by decide +kernel
theorem dm_X12_noun_194 : mj_dec prog_14_method_85_code 194 = some (.iload_n 1, 1) := by decide +kernel
theorem dm_X12_noun_195 : mj_dec prog_14_method_85_code 195 = some (.invokevirtual 450, 3) := by decide +kernel
theorem dm_X12_noun_198 : mj_dec prog_14_method_85_code 198 = some (.istore_n 2, 1) := by decide +kernel
theorem dm_X12_noun_199 : mj_dec prog_14_method_85_code 199 = some (.aload_n 0, 1) := by decide +kernel
theorem dm_X12_noun_200 : mj_dec prog_14_method_85_code 200 = some (.getfield 93, 3) := by decide +kernel
theorem dm_X12_noun_203 : mj_dec prog_14_method_85_code 203 = some (.iload_n 2, 1) := by decide +kernel
theorem dm_X12_noun_204 : mj_dec prog_14_method_85_code 204 = some (.aload_n 0, 1) := by decide +kernel
theorem dm_X12_noun_205 : mj_dec prog_14_method_85_code 205 = some (.getfield 417, 3) := by decide +kernel
theorem dm_X12_noun_208 : mj_dec prog_14_method_85_code 208 = some (.lastore, 1) := by decide +kernel
theorem dm_X12_noun_209 : mj_dec prog_14_method_85_code 209 = some (.aload_n 0, 1) := by decide +kernel
theorem dm_X12_noun_210 : mj_dec prog_14_method_85_code 210 = some (.invokevirtual 437, 3) := by decide +kernel
theorem dm_X12_noun_213 : mj_dec prog_14_method_85_code 213 = some (.goto 72, 3) := by decide +kernel
theorem dm_X12_noun_216 : mj_dec prog_14_method_85_code 216 = some (.aload_n 0, 1) := by decide +kernel
theorem dm_X12_noun_217 : mj_dec prog_14_method_85_code 217 = some (.bipush 40, 2) := by decide +kernel
theorem dm_X12_noun_219 : mj_dec prog_14_method_85_code 219 = some (.invokevirtual 440, 3) := by decide +kernel
theorem dm_X12_noun_222 : mj_dec prog_14_method_85_code 222 = some (.ifCond .eq 12, 3) := by decide +kernel
theorem dm_X12_noun_225 : mj_dec prog_14_method_85_code 225 = some (.aload_n 0, 1) := by decide +kernel
theorem dm_X12_noun_226 : mj_dec prog_14_method_85_code 226 = some (.iload_n 1, 1) := by decide +kernel
theorem dm_X12_noun_227 : mj_dec prog_14_method_85_code 227 = some (.invokevirtual 454, 3) := by decide +kernel
theorem dm_X12_noun_230 : mj_dec prog_14_method_85_code 230 = some (.istore_n 2, 1) := by decide +kernel
theorem dm_X12_noun_231 : mj_dec prog_14_method_85_code 231 = some (.goto 54, 3) := by decide +kernel
theorem dm_X12_noun_234 : mj_dec prog_14_method_85_code 234 = some (.aload_n 0, 1) := by decide +kernel
theorem dm_X12_noun_235 : mj_dec prog_14_method_85_code 235 = some (.invokevirtual 457, 3) := by decide +kernel
theorem dm_X12_noun_238 : mj_dec prog_14_method_85_code 238 = some (.aload_n 0, 1) := by decide +kernel
theorem dm_X12_noun_239 : mj_dec prog_14_method_85_code 239 = some (.invokevirtual 460, 3) := by decide +kernel
theorem dm_X12_noun_242 : mj_dec prog_14_method_85_code 242 = some (.istore_n 3, 1) := by decide +kernel
theorem dm_X12_noun_243 : mj_dec prog_14_method_85_code 243 = some (.aload_n 0, 1) := by decide +kernel
theorem dm_X12_noun_244 : mj_dec prog_14_method_85_code 244 = some (.bipush 59, 2) := by decide +kernel
theorem dm_X12_noun_246 : mj_dec prog_14_method_85_code 246 = some (.invokevirtual 463, 3) := by decide +kernel
theorem dm_X12_noun_249 : mj_dec prog_14_method_85_code 249 = some (.aload_n 0, 1) := by decide +kernel
theorem dm_X12_noun_250 : mj_dec prog_14_method_85_code 250 = some (.invokevirtual 460, 3) := by decide +kernel
theorem dm_X12_noun_253 : mj_dec prog_14_method_85_code 253 = some (.istore 4, 2) := by decide +kernel
theorem dm_X12_noun_255 : mj_dec prog_14_method_85_code 255 = some (.aload_n 0, 1) := by decide +kernel
theorem dm_X12_noun_256 : mj_dec prog_14_method_85_code 256 = some (.bipush 59, 2) := by decide +kernel
theorem dm_X12_noun_258 : mj_dec prog_14_method_85_code 258 = some (.invokevirtual 463, 3) := by decide +kernel
theorem dm_X12_noun_261 : mj_dec prog_14_method_85_code 261 = some (.aload_n 0, 1) := by decide +kernel
theorem dm_X12_noun_262 : mj_dec prog_14_method_85_code 262 = some (.invokevirtual 460, 3) := by decide +kernel
theorem dm_X12_noun_265 : mj_dec prog_14_method_85_code 265 = some (.istore 5, 2) := by decide +kernel
theorem dm_X12_noun_267 : mj_dec prog_14_method_85_code 267 = some (.aload_n 0, 1) := by decide +kernel
theorem dm_X12_noun_268 : mj_dec prog_14_method_85_code 268 = some (.bipush 93, 2) := by decide +kernel
theorem dm_X12_noun_270 : mj_dec prog_14_method_85_code 270 = some (.invokevirtual 466, 3) := by decide +kernel
theorem dm_X12_noun_273 : mj_dec prog_14_method_85_code 273 = some (.aload_n 0, 1) := by decide +kernel
theorem dm_X12_noun_274 : mj_dec prog_14_method_85_code 274 = some (.iconst 4, 1) := by decide +kernel
theorem dm_X12_noun_275 : mj_dec prog_14_method_85_code 275 = some (.iload_n 3, 1) := by decide +kernel
theorem dm_X12_noun_276 : mj_dec prog_14_method_85_code 276 = some (.iload 4, 2) := by decide +kernel
theorem dm_X12_noun_278 : mj_dec prog_14_method_85_code 278 = some (.iload 5, 2) := by decide +kernel
theorem dm_X12_noun_280 : mj_dec prog_14_method_85_code 280 = some (.iload_n 1, 1) := by decide +kernel
theorem dm_X12_noun_281 : mj_dec prog_14_method_85_code 281 = some (.invokevirtual 450, 3) := by decide +kernel
theorem dm_X12_noun_284 : mj_dec prog_14_method_85_code 284 = some (.istore_n 2, 1) := by decide +kernel
theorem r_noun_ {xt : mj_X} {d o f : Nat} {pre post : mj_H} {s : RS} {bf : Nat → Int} {ln n m hi i mk : Nat} {F : Nat → Int → Bool} {T : Nat → Tok} (hm : pre.length = 102) (hd : 6 * (12 - o) + 19 ≤ d) (hT : T = tkI bf ln F) (hK : TOKS T mk ln) (hR : RD bf ln F n m hi s i) (hE : ∀ g, g ≤ f + 2 → RE xt pre post bf ln F T mk n m hi g) (hRM : RM T ln s i) (ho12 : o ≤ 12) (hhi : mk ≤ hi) (ho : s.1 51 = (o : Int)) (h52 : s.1 52 = -1) (hnn : isNn T i) (hi1 : i ≤ mk) (hf : 8 * (mk - i) + 5 ≤ f + 3) (hTX : ∀ i, tqS (tkI bf ln F i) = 2 → ∀ k : Nat, (k : Int) < tqD (tkI bf ln F i) → tqP (tkI bf ln F i) + 1 + k < ln ∧ bf (tqP (tkI bf ln F i) + 1 + k) = tqX (tkI bf ln F i) k) : pgV xt d 223 [.ref 102] (rS pre post s) (RQ pre post bf ln F T n m hi s (f + 3) 1 o i 0) := by
  have hln := hK.2.1
  have hmk200 := hK.1
  obtain ⟨r1, r2, r3, r4, r5, r6⟩ := id hRM
  obtain ⟨h38, h8, h40⟩ := RD_s hT hK hR
  have h40r : ¬ (tqS (T i) = 5 ∨ tqS (T i) = 6 ∨ tqS (T i) = 7) ∨ (s.1 40 = tqD (T i) ∧ 1 ≤ tqD (T i) ∧ tqD (T i) ≤ 126) := by
    by_cases z : tqS (T i) = 5 ∨ tqS (T i) = 6 ∨ tqS (T i) = 7
    · exact Or.inr (h40 z)
    · exact Or.inl z
  clear h40
  have h39 : s.1 39 = ((tqP (T i) : Nat) : Int) := by rw [hT]; exact (RD_38 hR).2
  have hPl := P_ln hK i
  refine x_enter pm_X12_noun (L0 := [(0, .ref 102)]) rfl (Nat.le_of_ble_eq_true rfl) (by omega) ?_
  refine me1 (pc' := 1) (L' := [(0, .ref 102)]) (S' := [.ref 102]) dm_X12_noun_0 rfl rfl rfl rfl ?_
  refine me3 (pc' := 4) (S' := [ii (s.1 39)]) dm_X12_noun_1 (q_geti (v := s.1 39) hm rfl (fun m i l => rg_39 m i l) rfl) rfl rfl rfl ?_
  refine pg_st0 (S' := [ii ((tqP (T i) : Nat) : Int)]) (congrArg (fun z => ii z :: []) (h39)) ?_
  refine me1 (pc' := 5) (L' := [(1, ii ((tqP (T i) : Nat) : Int)), (0, .ref 102)]) (S' := []) dm_X12_noun_4 rfl rfl rfl rfl ?_
  refine me0 (pc' := 6) (S' := [ii (-1)]) dm_X12_noun_5 rfl rfl rfl rfl ?_
  refine me1 (pc' := 7) (L' := [(2, ii (-1)), (1, ii ((tqP (T i) : Nat) : Int)), (0, .ref 102)]) (S' := []) dm_X12_noun_6 rfl rfl rfl rfl ?_
  refine me1 (pc' := 8) (L' := [(2, ii (-1)), (1, ii ((tqP (T i) : Nat) : Int)), (0, .ref 102)]) (S' := [.ref 102]) dm_X12_noun_7 rfl rfl rfl rfl ?_
  refine me3 (pc' := 11) (S' := [ii (s.1 38)]) dm_X12_noun_8 (q_geti (v := s.1 38) hm rfl (fun m i l => rg_38 m i l) rfl) rfl rfl rfl ?_
  refine me0 (pc' := 12) (S' := [ii 1, ii (s.1 38)]) dm_X12_noun_11 rfl rfl rfl rfl ?_
  refine y_2ne (a := s.1 38) (b := 1) (t := 92) (pc' := 15) dm_X12_noun_12 rfl rfl (by omega) (fun hb1 => ?_) (fun hb1 => ?_)
  · refine me1 (pc' := 93) (L' := [(2, ii (-1)), (1, ii ((tqP (T i) : Nat) : Int)), (0, .ref 102)]) (S' := [.ref 102]) dm_X12_noun_92 rfl rfl rfl rfl ?_
    refine me3 (pc' := 96) (S' := [ii (s.1 38)]) dm_X12_noun_93 (q_geti (v := s.1 38) hm rfl (fun m i l => rg_38 m i l) rfl) rfl rfl rfl ?_
    refine me0 (pc' := 97) (S' := [ii 2, ii (s.1 38)]) dm_X12_noun_96 rfl rfl rfl rfl ?_
    refine y_2ne (a := s.1 38) (b := 2) (t := 181) (pc' := 100) dm_X12_noun_97 rfl rfl (by omega) (fun hb2 => ?_) (fun hb2 => ?_)
    · refine me1 (pc' := 182) (L' := [(2, ii (-1)), (1, ii ((tqP (T i) : Nat) : Int)), (0, .ref 102)]) (S' := [.ref 102]) dm_X12_noun_181 rfl rfl rfl rfl ?_
      refine me3 (pc' := 185) (S' := [ii (s.1 38)]) dm_X12_noun_182 (q_geti (v := s.1 38) hm rfl (fun m i l => rg_38 m i l) rfl) rfl rfl rfl ?_
      refine me0 (pc' := 186) (S' := [ii 3, ii (s.1 38)]) dm_X12_noun_185 rfl rfl rfl rfl ?_
      refine y_2ne (a := s.1 38) (b := 3) (t := 216) (pc' := 189) dm_X12_noun_186 rfl rfl (by omega) (fun hb3 => ?_) (fun hb3 => ?_)
      · refine me1 (pc' := 217) (L' := [(2, ii (-1)), (1, ii ((tqP (T i) : Nat) : Int)), (0, .ref 102)]) (S' := [.ref 102]) dm_X12_noun_216 rfl rfl rfl rfl ?_
        refine me0 (pc' := 219) (S' := [ii 40, .ref 102]) dm_X12_noun_217 rfl rfl rfl rfl ?_
        refine x_cp (pc' := 222) (v := zz (decide (isMk T i 40))) (rest := []) dm_X12_noun_219 rfl (q_inv (As := [ii 40]) (S := []) hm rfl rfl rfl) rfl rfl rfl (r_mkd_ (i := i) hm (by omega) hT hK hR (by omega)) ?_
        refine y_zeq (c := decide (isMk T i 40)) (t := 234) (pc' := 225) dm_X12_noun_222 rfl rfl (fun hb4 => ?_) (fun hb4 => ?_)
        · replace hb4 := dF hb4
          have hn40 := hb4
          refine me1 (pc' := 235) (L' := [(2, ii (-1)), (1, ii ((tqP (T i) : Nat) : Int)), (0, .ref 102)]) (S' := [.ref 102]) dm_X12_noun_234 rfl rfl rfl rfl ?_
          have h91 : isMk T i 91 := by omega
          have hil := TOKS_lt hK (i := i) (by omega)
          have hPi := hK.2.2.2.2.2.2.1 i hil
          have hPi1 := P_ln hK (i + 1)
          by_cases ho2 : o = 12
          · refine x_cn (pc' := 238) (rest := []) dm_X12_noun_235 rfl (q_inv (As := []) (S := []) hm rfl rfl rfl) rfl rfl rfl (r_opensF (s := s) (i := i) hm (by omega) hT hK hR ho ho2 h52) ?_
            rintro _ ⟨t1, rfl, hk1, h1b⟩
            obtain ⟨-, k13, k14, k15, -⟩ := id hk1
            have bd : 0 ≤ t1.1 52 ∧ t1.1 52 ≤ 1000 := by have := P_ln hK (i); omega
            refine me1 (pc' := 239) (L' := [(2, ii (-1)), (1, ii ((tqP (T i) : Nat) : Int)), (0, .ref 102)]) (S' := [.ref 102]) dm_X12_noun_238 rfl rfl rfl rfl ?_
            refine x_cv (pc' := 242) (rest := []) dm_X12_noun_239 rfl (q_inv (As := []) (S := []) hm rfl rfl rfl) rfl rfl rfl (r_exprB (s := t1) hm (by omega) bd) ?_
            rintro _ _ ⟨rfl, rfl⟩
            refine me1 (pc' := 243) (L' := [(3, ii (-1)), (2, ii (-1)), (1, ii ((tqP (T i) : Nat) : Int)), (0, .ref 102)]) (S' := []) dm_X12_noun_242 rfl rfl rfl rfl ?_
            refine me1 (pc' := 244) (L' := [(3, ii (-1)), (2, ii (-1)), (1, ii ((tqP (T i) : Nat) : Int)), (0, .ref 102)]) (S' := [.ref 102]) dm_X12_noun_243 rfl rfl rfl rfl ?_
            refine me0 (pc' := 246) (S' := [ii 59, .ref 102]) dm_X12_noun_244 rfl rfl rfl rfl ?_
            refine x_cn (pc' := 249) (rest := []) dm_X12_noun_246 rfl (q_inv (As := [ii 59]) (S := []) hm rfl rfl rfl) rfl rfl rfl (r_needsB (s := t1) hm (by omega) bd) ?_
            rintro _ rfl
            refine me1 (pc' := 250) (L' := [(3, ii (-1)), (2, ii (-1)), (1, ii ((tqP (T i) : Nat) : Int)), (0, .ref 102)]) (S' := [.ref 102]) dm_X12_noun_249 rfl rfl rfl rfl ?_
            refine x_cv (pc' := 253) (rest := []) dm_X12_noun_250 rfl (q_inv (As := []) (S := []) hm rfl rfl rfl) rfl rfl rfl (r_exprB (s := t1) hm (by omega) bd) ?_
            rintro _ _ ⟨rfl, rfl⟩
            refine me1 (pc' := 255) (L' := [(4, ii (-1)), (3, ii (-1)), (2, ii (-1)), (1, ii ((tqP (T i) : Nat) : Int)), (0, .ref 102)]) (S' := []) dm_X12_noun_253 rfl rfl rfl rfl ?_
            refine me1 (pc' := 256) (L' := [(4, ii (-1)), (3, ii (-1)), (2, ii (-1)), (1, ii ((tqP (T i) : Nat) : Int)), (0, .ref 102)]) (S' := [.ref 102]) dm_X12_noun_255 rfl rfl rfl rfl ?_
            refine me0 (pc' := 258) (S' := [ii 59, .ref 102]) dm_X12_noun_256 rfl rfl rfl rfl ?_
            refine x_cn (pc' := 261) (rest := []) dm_X12_noun_258 rfl (q_inv (As := [ii 59]) (S := []) hm rfl rfl rfl) rfl rfl rfl (r_needsB (s := t1) hm (by omega) bd) ?_
            rintro _ rfl
            refine me1 (pc' := 262) (L' := [(4, ii (-1)), (3, ii (-1)), (2, ii (-1)), (1, ii ((tqP (T i) : Nat) : Int)), (0, .ref 102)]) (S' := [.ref 102]) dm_X12_noun_261 rfl rfl rfl rfl ?_
            refine x_cv (pc' := 265) (rest := []) dm_X12_noun_262 rfl (q_inv (As := []) (S := []) hm rfl rfl rfl) rfl rfl rfl (r_exprB (s := t1) hm (by omega) bd) ?_
            rintro _ _ ⟨rfl, rfl⟩
            refine me1 (pc' := 267) (L' := [(5, ii (-1)), (4, ii (-1)), (3, ii (-1)), (2, ii (-1)), (1, ii ((tqP (T i) : Nat) : Int)), (0, .ref 102)]) (S' := []) dm_X12_noun_265 rfl rfl rfl rfl ?_
            refine me1 (pc' := 268) (L' := [(5, ii (-1)), (4, ii (-1)), (3, ii (-1)), (2, ii (-1)), (1, ii ((tqP (T i) : Nat) : Int)), (0, .ref 102)]) (S' := [.ref 102]) dm_X12_noun_267 rfl rfl rfl rfl ?_
            refine me0 (pc' := 270) (S' := [ii 93, .ref 102]) dm_X12_noun_268 rfl rfl rfl rfl ?_
            refine x_cn (pc' := 273) (rest := []) dm_X12_noun_270 rfl (q_inv (As := [ii 93]) (S := []) hm rfl rfl rfl) rfl rfl rfl (r_closesB (s := t1) hm (by omega) bd) ?_
            rintro _ ⟨t7, rfl, kt7, t752⟩
            obtain ⟨-, t7x, t7y, t7z, -⟩ := id kt7
            refine me1 (pc' := 274) (L' := [(5, ii (-1)), (4, ii (-1)), (3, ii (-1)), (2, ii (-1)), (1, ii ((tqP (T i) : Nat) : Int)), (0, .ref 102)]) (S' := [.ref 102]) dm_X12_noun_273 rfl rfl rfl rfl ?_
            refine me0 (pc' := 275) (S' := [ii 4, .ref 102]) dm_X12_noun_274 rfl rfl rfl rfl ?_
            refine me1 (pc' := 276) (L' := [(5, ii (-1)), (4, ii (-1)), (3, ii (-1)), (2, ii (-1)), (1, ii ((tqP (T i) : Nat) : Int)), (0, .ref 102)]) (S' := [ii (-1), ii 4, .ref 102]) dm_X12_noun_275 rfl rfl rfl rfl ?_
            refine me1 (pc' := 278) (L' := [(5, ii (-1)), (4, ii (-1)), (3, ii (-1)), (2, ii (-1)), (1, ii ((tqP (T i) : Nat) : Int)), (0, .ref 102)]) (S' := [ii (-1), ii (-1), ii 4, .ref 102]) dm_X12_noun_276 rfl rfl rfl rfl ?_
            refine me1 (pc' := 280) (L' := [(5, ii (-1)), (4, ii (-1)), (3, ii (-1)), (2, ii (-1)), (1, ii ((tqP (T i) : Nat) : Int)), (0, .ref 102)]) (S' := [ii (-1), ii (-1), ii (-1), ii 4, .ref 102]) dm_X12_noun_278 rfl rfl rfl rfl ?_
            refine me1 (pc' := 281) (L' := [(5, ii (-1)), (4, ii (-1)), (3, ii (-1)), (2, ii (-1)), (1, ii ((tqP (T i) : Nat) : Int)), (0, .ref 102)]) (S' := [ii ((tqP (T i) : Nat) : Int), ii (-1), ii (-1), ii (-1), ii 4, .ref 102]) dm_X12_noun_280 rfl rfl rfl rfl ?_
            obtain ⟨N, hN⟩ : ∃ N : Nat, t7.1 50 = (N : Int) := ⟨(t7.1 50).toNat, by omega⟩
            refine x_cv (pc' := 284) (rest := []) dm_X12_noun_281 rfl (q_inv (As := [ii 4, ii (-1), ii (-1), ii (-1), ii ((tqP (T i) : Nat) : Int)]) (S := []) hm rfl rfl rfl) rfl rfl rfl (r_node_ (s := t7) (N := N) hm (by omega) hN (by omega)) ?_
            rintro _ _ ⟨rfl, rfl⟩
            have ni := nod_i t7 N 4 (-1) (-1) (-1) ((tqP (T i) : Nat) : Int)
            have nr := rdR_nod hN 4 (-1) (-1) (-1) ((tqP (T i) : Nat) : Int)
            have n3 := ni.2 3 (by decide)
            have n4 := ni.2 4 (by decide)
            have n52 := ni.2 52 (by decide)
            have n51 := ni.2 51 (by decide)
            have n50 := ni.1
            have na := nod_at t7 N 4 (-1) (-1) (-1) ((tqP (T i) : Nat) : Int)
            refine me1 (pc' := 285) (L' := [(2, ii (N : Int)), (5, ii (-1)), (4, ii (-1)), (3, ii (-1)), (1, ii ((tqP (T i) : Nat) : Int)), (0, .ref 102)]) (S' := []) dm_X12_noun_284 rfl rfl rfl rfl ?_
            refine me1 (pc' := 286) (L' := [(2, ii (N : Int)), (5, ii (-1)), (4, ii (-1)), (3, ii (-1)), (1, ii ((tqP (T i) : Nat) : Int)), (0, .ref 102)]) (S' := [.ref 102]) dm_X12_noun_285 rfl rfl rfl rfl ?_
            refine me3 (pc' := 289) (S' := [ii (((nodS t7 N 4 (-1) (-1) (-1) ((tqP (T i) : Nat) : Int)).1) 52)]) dm_X12_noun_286 (q_geti (v := ((nodS t7 N 4 (-1) (-1) (-1) ((tqP (T i) : Nat) : Int)).1) 52) hm rfl (fun m i l => rg_52 m i l) rfl) rfl rfl rfl ?_
            refine y_1ge (a := ((nodS t7 N 4 (-1) (-1) (-1) ((tqP (T i) : Nat) : Int)).1) 52) (t := 347) (pc' := 292) dm_X12_noun_289 rfl rfl (by omega) (fun hb5 => ?_) (fun hb5 => ?_)
            · refine me1 (pc' := 348) (L' := [(2, ii (N : Int)), (5, ii (-1)), (4, ii (-1)), (3, ii (-1)), (1, ii ((tqP (T i) : Nat) : Int)), (0, .ref 102)]) (S' := [ii (N : Int)]) dm_X12_noun_347 rfl rfl rfl rfl ?_
              refine y_ret (r := some (ii (N : Int))) dm_X12_noun_348 rfl rfl rfl ?_
              exact ⟨_, rfl, RQ_ie (pR1_e (pR3_x (by omega) (fun z => by have := z.2; omega) (fun z => by have := z.2; omega))) (rdR_tr (rdR_tr hk1.1 kt7.1) nr) (n52.trans (t752.trans h1b)) ⟨by omega, by omega, by omega⟩⟩
            · exfalso; omega
          · refine x_cn (pc' := 238) (rest := []) dm_X12_noun_235 rfl (q_inv (As := []) (S := []) hm rfl rfl rfl) rfl rfl rfl (r_opensT (s := s) (i := i) hm (by omega) hT hK hR ho (by omega) (by omega)) ?_
            rintro _ ⟨t1, rfl, hk1, t1D, t151, h1b⟩
            obtain ⟨-, k13, k14, k15, -⟩ := id hk1
            have t152 : t1.1 52 = -1 := h1b.trans h52
            have t1RM : RM T ln t1 (i + 1) := (RM_d hRM hk1.1 (RMd_T hk1 (by omega)) (by omega))
            refine me1 (pc' := 239) (L' := [(2, ii (-1)), (1, ii ((tqP (T i) : Nat) : Int)), (0, .ref 102)]) (S' := [.ref 102]) dm_X12_noun_238 rfl rfl rfl rfl ?_
            rcases ea : pR T (f + 1) 0 (o + 1) (i + 1) with p_ea | j_ea
            · refine x_cv (pc' := 242) (rest := []) dm_X12_noun_239 rfl (q_inv (As := []) (S := []) hm rfl rfl rfl) rfl rfl rfl (hE (f + 1) (by omega) _ t1 (i + 1) (o + 1) (by omega) t1D t151 t152 t1RM (by omega) (by omega) (by omega)) ?_
              rintro x_t2 h_t2 hxt2
              obtain ⟨t2, t2v, rfl, rfl, t2R, t252, t2E⟩ := RQ_e ea hxt2
              have hplt2 := pR_ln hK _ _ _ _ _ ea
              have bd : 0 ≤ t2.1 52 ∧ t2.1 52 ≤ 1000 := by omega
              obtain ⟨t2a, t2b, t2c⟩ := id t2E
              have t2_n : t1.1 50 ≤ t2.1 50 := t2R.2.1
              refine me1 (pc' := 243) (L' := [(3, ii t2v), (2, ii (-1)), (1, ii ((tqP (T i) : Nat) : Int)), (0, .ref 102)]) (S' := []) dm_X12_noun_242 rfl rfl rfl rfl ?_
              refine me1 (pc' := 244) (L' := [(3, ii t2v), (2, ii (-1)), (1, ii ((tqP (T i) : Nat) : Int)), (0, .ref 102)]) (S' := [.ref 102]) dm_X12_noun_243 rfl rfl rfl rfl ?_
              refine me0 (pc' := 246) (S' := [ii 59, .ref 102]) dm_X12_noun_244 rfl rfl rfl rfl ?_
              refine x_cn (pc' := 249) (rest := []) dm_X12_noun_246 rfl (q_inv (As := [ii 59]) (S := []) hm rfl rfl rfl) rfl rfl rfl (r_needsB (s := t2) hm (by omega) bd) ?_
              rintro _ rfl
              refine me1 (pc' := 250) (L' := [(3, ii t2v), (2, ii (-1)), (1, ii ((tqP (T i) : Nat) : Int)), (0, .ref 102)]) (S' := [.ref 102]) dm_X12_noun_249 rfl rfl rfl rfl ?_
              refine x_cv (pc' := 253) (rest := []) dm_X12_noun_250 rfl (q_inv (As := []) (S := []) hm rfl rfl rfl) rfl rfl rfl (r_exprB (s := t2) hm (by omega) bd) ?_
              rintro _ _ ⟨rfl, rfl⟩
              refine me1 (pc' := 255) (L' := [(4, ii (-1)), (3, ii t2v), (2, ii (-1)), (1, ii ((tqP (T i) : Nat) : Int)), (0, .ref 102)]) (S' := []) dm_X12_noun_253 rfl rfl rfl rfl ?_
              refine me1 (pc' := 256) (L' := [(4, ii (-1)), (3, ii t2v), (2, ii (-1)), (1, ii ((tqP (T i) : Nat) : Int)), (0, .ref 102)]) (S' := [.ref 102]) dm_X12_noun_255 rfl rfl rfl rfl ?_
              refine me0 (pc' := 258) (S' := [ii 59, .ref 102]) dm_X12_noun_256 rfl rfl rfl rfl ?_
              refine x_cn (pc' := 261) (rest := []) dm_X12_noun_258 rfl (q_inv (As := [ii 59]) (S := []) hm rfl rfl rfl) rfl rfl rfl (r_needsB (s := t2) hm (by omega) bd) ?_
              rintro _ rfl
              refine me1 (pc' := 262) (L' := [(4, ii (-1)), (3, ii t2v), (2, ii (-1)), (1, ii ((tqP (T i) : Nat) : Int)), (0, .ref 102)]) (S' := [.ref 102]) dm_X12_noun_261 rfl rfl rfl rfl ?_
              refine x_cv (pc' := 265) (rest := []) dm_X12_noun_262 rfl (q_inv (As := []) (S := []) hm rfl rfl rfl) rfl rfl rfl (r_exprB (s := t2) hm (by omega) bd) ?_
              rintro _ _ ⟨rfl, rfl⟩
              refine me1 (pc' := 267) (L' := [(5, ii (-1)), (4, ii (-1)), (3, ii t2v), (2, ii (-1)), (1, ii ((tqP (T i) : Nat) : Int)), (0, .ref 102)]) (S' := []) dm_X12_noun_265 rfl rfl rfl rfl ?_
              refine me1 (pc' := 268) (L' := [(5, ii (-1)), (4, ii (-1)), (3, ii t2v), (2, ii (-1)), (1, ii ((tqP (T i) : Nat) : Int)), (0, .ref 102)]) (S' := [.ref 102]) dm_X12_noun_267 rfl rfl rfl rfl ?_
              refine me0 (pc' := 270) (S' := [ii 93, .ref 102]) dm_X12_noun_268 rfl rfl rfl rfl ?_
              refine x_cn (pc' := 273) (rest := []) dm_X12_noun_270 rfl (q_inv (As := [ii 93]) (S := []) hm rfl rfl rfl) rfl rfl rfl (r_closesB (s := t2) hm (by omega) bd) ?_
              rintro _ ⟨t7, rfl, kt7, t752⟩
              obtain ⟨-, t7x, t7y, t7z, -⟩ := id kt7
              refine me1 (pc' := 274) (L' := [(5, ii (-1)), (4, ii (-1)), (3, ii t2v), (2, ii (-1)), (1, ii ((tqP (T i) : Nat) : Int)), (0, .ref 102)]) (S' := [.ref 102]) dm_X12_noun_273 rfl rfl rfl rfl ?_
              refine me0 (pc' := 275) (S' := [ii 4, .ref 102]) dm_X12_noun_274 rfl rfl rfl rfl ?_
              refine me1 (pc' := 276) (L' := [(5, ii (-1)), (4, ii (-1)), (3, ii t2v), (2, ii (-1)), (1, ii ((tqP (T i) : Nat) : Int)), (0, .ref 102)]) (S' := [ii t2v, ii 4, .ref 102]) dm_X12_noun_275 rfl rfl rfl rfl ?_
              refine me1 (pc' := 278) (L' := [(5, ii (-1)), (4, ii (-1)), (3, ii t2v), (2, ii (-1)), (1, ii ((tqP (T i) : Nat) : Int)), (0, .ref 102)]) (S' := [ii (-1), ii t2v, ii 4, .ref 102]) dm_X12_noun_276 rfl rfl rfl rfl ?_
              refine me1 (pc' := 280) (L' := [(5, ii (-1)), (4, ii (-1)), (3, ii t2v), (2, ii (-1)), (1, ii ((tqP (T i) : Nat) : Int)), (0, .ref 102)]) (S' := [ii (-1), ii (-1), ii t2v, ii 4, .ref 102]) dm_X12_noun_278 rfl rfl rfl rfl ?_
              refine me1 (pc' := 281) (L' := [(5, ii (-1)), (4, ii (-1)), (3, ii t2v), (2, ii (-1)), (1, ii ((tqP (T i) : Nat) : Int)), (0, .ref 102)]) (S' := [ii ((tqP (T i) : Nat) : Int), ii (-1), ii (-1), ii t2v, ii 4, .ref 102]) dm_X12_noun_280 rfl rfl rfl rfl ?_
              obtain ⟨N, hN⟩ : ∃ N : Nat, t7.1 50 = (N : Int) := ⟨(t7.1 50).toNat, by omega⟩
              refine x_cv (pc' := 284) (rest := []) dm_X12_noun_281 rfl (q_inv (As := [ii 4, ii t2v, ii (-1), ii (-1), ii ((tqP (T i) : Nat) : Int)]) (S := []) hm rfl rfl rfl) rfl rfl rfl (r_node_ (s := t7) (N := N) hm (by omega) hN (by omega)) ?_
              rintro _ _ ⟨rfl, rfl⟩
              have ni := nod_i t7 N 4 t2v (-1) (-1) ((tqP (T i) : Nat) : Int)
              have nr := rdR_nod hN 4 t2v (-1) (-1) ((tqP (T i) : Nat) : Int)
              have n3 := ni.2 3 (by decide)
              have n4 := ni.2 4 (by decide)
              have n52 := ni.2 52 (by decide)
              have n51 := ni.2 51 (by decide)
              have n50 := ni.1
              have na := nod_at t7 N 4 t2v (-1) (-1) ((tqP (T i) : Nat) : Int)
              refine me1 (pc' := 285) (L' := [(2, ii (N : Int)), (5, ii (-1)), (4, ii (-1)), (3, ii t2v), (1, ii ((tqP (T i) : Nat) : Int)), (0, .ref 102)]) (S' := []) dm_X12_noun_284 rfl rfl rfl rfl ?_
              refine me1 (pc' := 286) (L' := [(2, ii (N : Int)), (5, ii (-1)), (4, ii (-1)), (3, ii t2v), (1, ii ((tqP (T i) : Nat) : Int)), (0, .ref 102)]) (S' := [.ref 102]) dm_X12_noun_285 rfl rfl rfl rfl ?_
              refine me3 (pc' := 289) (S' := [ii (((nodS t7 N 4 t2v (-1) (-1) ((tqP (T i) : Nat) : Int)).1) 52)]) dm_X12_noun_286 (q_geti (v := ((nodS t7 N 4 t2v (-1) (-1) ((tqP (T i) : Nat) : Int)).1) 52) hm rfl (fun m i l => rg_52 m i l) rfl) rfl rfl rfl ?_
              refine y_1ge (a := ((nodS t7 N 4 t2v (-1) (-1) ((tqP (T i) : Nat) : Int)).1) 52) (t := 347) (pc' := 292) dm_X12_noun_289 rfl rfl (by omega) (fun hb6 => ?_) (fun hb6 => ?_)
              · refine me1 (pc' := 348) (L' := [(2, ii (N : Int)), (5, ii (-1)), (4, ii (-1)), (3, ii t2v), (1, ii ((tqP (T i) : Nat) : Int)), (0, .ref 102)]) (S' := [ii (N : Int)]) dm_X12_noun_347 rfl rfl rfl rfl ?_
                refine y_ret (r := some (ii (N : Int))) dm_X12_noun_348 rfl rfl rfl ?_
                exact ⟨_, rfl, RQ_ie (pR1_e (pR3_c1 h91 (by omega) ea)) (rdR_tr (rdR_tr (rdR_tr hk1.1 t2R) kt7.1) nr) (n52.trans (t752.trans t252)) ⟨by omega, by omega, by omega⟩⟩
              · exfalso; omega
            · refine x_cv (pc' := 242) (rest := []) dm_X12_noun_239 rfl (q_inv (As := []) (S := []) hm rfl rfl rfl) rfl rfl rfl (hE (f + 1) (by omega) _ t1 (i + 1) (o + 1) (by omega) t1D t151 t152 t1RM (by omega) (by omega) (by omega)) ?_
              rintro x_t2 h_t2 hxt2
              obtain ⟨t2, rfl, t2R, t2D, t251, t252, t2M, nea, Bea, rfl, t2p, t2q, t2B, t2C⟩ := RQ_v ea hxt2
              have t2M : RMd T t1 t2 (i + 1) j_ea 0 (-1) := t2M
              have hjea := pR_mk hK _ 0 _ _ _ (show i + 1 ≤ mk by omega) ea
              have hjjea := hjea.2.2 (by decide)
              obtain ⟨t2a, t2b, t2c⟩ := id t2M
              have P_ea := P_ln hK j_ea
              have t2_n : t1.1 50 ≤ t2.1 50 := t2R.2.1
              refine me1 (pc' := 243) (L' := [(3, ii (nea : Int)), (2, ii (-1)), (1, ii ((tqP (T i) : Nat) : Int)), (0, .ref 102)]) (S' := []) dm_X12_noun_242 rfl rfl rfl rfl ?_
              refine me1 (pc' := 244) (L' := [(3, ii (nea : Int)), (2, ii (-1)), (1, ii ((tqP (T i) : Nat) : Int)), (0, .ref 102)]) (S' := [.ref 102]) dm_X12_noun_243 rfl rfl rfl rfl ?_
              refine me0 (pc' := 246) (S' := [ii 59, .ref 102]) dm_X12_noun_244 rfl rfl rfl rfl ?_
              by_cases hma : isMk T j_ea 59
              · have lhma := TOKS_lt hK (i := j_ea) (by have := hma.1; omega)
                have Phma := hK.2.2.2.2.2.2.1 j_ea lhma
                have Qhma := P_ln hK (j_ea + 1)
                refine x_cn (pc' := 249) (rest := []) dm_X12_noun_246 rfl (q_inv (As := [ii 59]) (S := []) hm rfl rfl rfl) rfl rfl rfl (r_needsT (s := t2) (i := j_ea) hm (by omega) hT hK t2D (by decide) t252 hma (by omega)) ?_
                rintro _ ⟨t3, rfl, kt3, t3D, t3510, t352⟩
                obtain ⟨-, t3x, t3y, t3z, -⟩ := id kt3
                have t351 : t3.1 51 = ((o + 1 : Nat) : Int) := t3510.trans t251
                have t3RM : RM T ln t3 (j_ea + 1) := RM_d t1RM (rdR_tr t2R kt3.1) (RMd_tr t2M (RMd_T (j := j_ea + 1) kt3 (by omega))) (by omega)
                refine me1 (pc' := 250) (L' := [(3, ii (nea : Int)), (2, ii (-1)), (1, ii ((tqP (T i) : Nat) : Int)), (0, .ref 102)]) (S' := [.ref 102]) dm_X12_noun_249 rfl rfl rfl rfl ?_
                rcases eb : pR T (f + 1) 0 (o + 1) (j_ea + 1) with p_eb | j_eb
                · refine x_cv (pc' := 253) (rest := []) dm_X12_noun_250 rfl (q_inv (As := []) (S := []) hm rfl rfl rfl) rfl rfl rfl (hE (f + 1) (by omega) _ t3 (j_ea + 1) (o + 1) (by omega) t3D t351 t352 t3RM (by omega) (by omega) (by omega)) ?_
                  rintro x_t4 h_t4 hxt4
                  obtain ⟨t4, t4v, rfl, rfl, t4R, t452, t4E⟩ := RQ_e eb hxt4
                  have hplt4 := pR_ln hK _ _ _ _ _ eb
                  have bd : 0 ≤ t4.1 52 ∧ t4.1 52 ≤ 1000 := by omega
                  obtain ⟨t4a, t4b, t4c⟩ := id t4E
                  have t4_n : t3.1 50 ≤ t4.1 50 := t4R.2.1
                  refine me1 (pc' := 255) (L' := [(4, ii t4v), (3, ii (nea : Int)), (2, ii (-1)), (1, ii ((tqP (T i) : Nat) : Int)), (0, .ref 102)]) (S' := []) dm_X12_noun_253 rfl rfl rfl rfl ?_
                  refine me1 (pc' := 256) (L' := [(4, ii t4v), (3, ii (nea : Int)), (2, ii (-1)), (1, ii ((tqP (T i) : Nat) : Int)), (0, .ref 102)]) (S' := [.ref 102]) dm_X12_noun_255 rfl rfl rfl rfl ?_
                  refine me0 (pc' := 258) (S' := [ii 59, .ref 102]) dm_X12_noun_256 rfl rfl rfl rfl ?_
                  refine x_cn (pc' := 261) (rest := []) dm_X12_noun_258 rfl (q_inv (As := [ii 59]) (S := []) hm rfl rfl rfl) rfl rfl rfl (r_needsB (s := t4) hm (by omega) bd) ?_
                  rintro _ rfl
                  refine me1 (pc' := 262) (L' := [(4, ii t4v), (3, ii (nea : Int)), (2, ii (-1)), (1, ii ((tqP (T i) : Nat) : Int)), (0, .ref 102)]) (S' := [.ref 102]) dm_X12_noun_261 rfl rfl rfl rfl ?_
                  refine x_cv (pc' := 265) (rest := []) dm_X12_noun_262 rfl (q_inv (As := []) (S := []) hm rfl rfl rfl) rfl rfl rfl (r_exprB (s := t4) hm (by omega) bd) ?_
                  rintro _ _ ⟨rfl, rfl⟩
                  refine me1 (pc' := 267) (L' := [(5, ii (-1)), (4, ii t4v), (3, ii (nea : Int)), (2, ii (-1)), (1, ii ((tqP (T i) : Nat) : Int)), (0, .ref 102)]) (S' := []) dm_X12_noun_265 rfl rfl rfl rfl ?_
                  refine me1 (pc' := 268) (L' := [(5, ii (-1)), (4, ii t4v), (3, ii (nea : Int)), (2, ii (-1)), (1, ii ((tqP (T i) : Nat) : Int)), (0, .ref 102)]) (S' := [.ref 102]) dm_X12_noun_267 rfl rfl rfl rfl ?_
                  refine me0 (pc' := 270) (S' := [ii 93, .ref 102]) dm_X12_noun_268 rfl rfl rfl rfl ?_
                  refine x_cn (pc' := 273) (rest := []) dm_X12_noun_270 rfl (q_inv (As := [ii 93]) (S := []) hm rfl rfl rfl) rfl rfl rfl (r_closesB (s := t4) hm (by omega) bd) ?_
                  rintro _ ⟨t7, rfl, kt7, t752⟩
                  obtain ⟨-, t7x, t7y, t7z, -⟩ := id kt7
                  refine me1 (pc' := 274) (L' := [(5, ii (-1)), (4, ii t4v), (3, ii (nea : Int)), (2, ii (-1)), (1, ii ((tqP (T i) : Nat) : Int)), (0, .ref 102)]) (S' := [.ref 102]) dm_X12_noun_273 rfl rfl rfl rfl ?_
                  refine me0 (pc' := 275) (S' := [ii 4, .ref 102]) dm_X12_noun_274 rfl rfl rfl rfl ?_
                  refine me1 (pc' := 276) (L' := [(5, ii (-1)), (4, ii t4v), (3, ii (nea : Int)), (2, ii (-1)), (1, ii ((tqP (T i) : Nat) : Int)), (0, .ref 102)]) (S' := [ii (nea : Int), ii 4, .ref 102]) dm_X12_noun_275 rfl rfl rfl rfl ?_
                  refine me1 (pc' := 278) (L' := [(5, ii (-1)), (4, ii t4v), (3, ii (nea : Int)), (2, ii (-1)), (1, ii ((tqP (T i) : Nat) : Int)), (0, .ref 102)]) (S' := [ii t4v, ii (nea : Int), ii 4, .ref 102]) dm_X12_noun_276 rfl rfl rfl rfl ?_
                  refine me1 (pc' := 280) (L' := [(5, ii (-1)), (4, ii t4v), (3, ii (nea : Int)), (2, ii (-1)), (1, ii ((tqP (T i) : Nat) : Int)), (0, .ref 102)]) (S' := [ii (-1), ii t4v, ii (nea : Int), ii 4, .ref 102]) dm_X12_noun_278 rfl rfl rfl rfl ?_
                  refine me1 (pc' := 281) (L' := [(5, ii (-1)), (4, ii t4v), (3, ii (nea : Int)), (2, ii (-1)), (1, ii ((tqP (T i) : Nat) : Int)), (0, .ref 102)]) (S' := [ii ((tqP (T i) : Nat) : Int), ii (-1), ii t4v, ii (nea : Int), ii 4, .ref 102]) dm_X12_noun_280 rfl rfl rfl rfl ?_
                  obtain ⟨N, hN⟩ : ∃ N : Nat, t7.1 50 = (N : Int) := ⟨(t7.1 50).toNat, by omega⟩
                  refine x_cv (pc' := 284) (rest := []) dm_X12_noun_281 rfl (q_inv (As := [ii 4, ii (nea : Int), ii t4v, ii (-1), ii ((tqP (T i) : Nat) : Int)]) (S := []) hm rfl rfl rfl) rfl rfl rfl (r_node_ (s := t7) (N := N) hm (by omega) hN (by omega)) ?_
                  rintro _ _ ⟨rfl, rfl⟩
                  have ni := nod_i t7 N 4 (nea : Int) t4v (-1) ((tqP (T i) : Nat) : Int)
                  have nr := rdR_nod hN 4 (nea : Int) t4v (-1) ((tqP (T i) : Nat) : Int)
                  have n3 := ni.2 3 (by decide)
                  have n4 := ni.2 4 (by decide)
                  have n52 := ni.2 52 (by decide)
                  have n51 := ni.2 51 (by decide)
                  have n50 := ni.1
                  have na := nod_at t7 N 4 (nea : Int) t4v (-1) ((tqP (T i) : Nat) : Int)
                  refine me1 (pc' := 285) (L' := [(2, ii (N : Int)), (5, ii (-1)), (4, ii t4v), (3, ii (nea : Int)), (1, ii ((tqP (T i) : Nat) : Int)), (0, .ref 102)]) (S' := []) dm_X12_noun_284 rfl rfl rfl rfl ?_
                  refine me1 (pc' := 286) (L' := [(2, ii (N : Int)), (5, ii (-1)), (4, ii t4v), (3, ii (nea : Int)), (1, ii ((tqP (T i) : Nat) : Int)), (0, .ref 102)]) (S' := [.ref 102]) dm_X12_noun_285 rfl rfl rfl rfl ?_
                  refine me3 (pc' := 289) (S' := [ii (((nodS t7 N 4 (nea : Int) t4v (-1) ((tqP (T i) : Nat) : Int)).1) 52)]) dm_X12_noun_286 (q_geti (v := ((nodS t7 N 4 (nea : Int) t4v (-1) ((tqP (T i) : Nat) : Int)).1) 52) hm rfl (fun m i l => rg_52 m i l) rfl) rfl rfl rfl ?_
                  refine y_1ge (a := ((nodS t7 N 4 (nea : Int) t4v (-1) ((tqP (T i) : Nat) : Int)).1) 52) (t := 347) (pc' := 292) dm_X12_noun_289 rfl rfl (by omega) (fun hb7 => ?_) (fun hb7 => ?_)
                  · refine me1 (pc' := 348) (L' := [(2, ii (N : Int)), (5, ii (-1)), (4, ii t4v), (3, ii (nea : Int)), (1, ii ((tqP (T i) : Nat) : Int)), (0, .ref 102)]) (S' := [ii (N : Int)]) dm_X12_noun_347 rfl rfl rfl rfl ?_
                    refine y_ret (r := some (ii (N : Int))) dm_X12_noun_348 rfl rfl rfl ?_
                    exact ⟨_, rfl, RQ_ie (pR1_e (pR3_c3 h91 (by omega) ea hma eb)) (rdR_tr (rdR_tr (rdR_tr (rdR_tr (rdR_tr hk1.1 t2R) kt3.1) t4R) kt7.1) nr) (n52.trans (t752.trans t452)) ⟨by omega, by omega, by omega⟩⟩
                  · exfalso; omega
                · refine x_cv (pc' := 253) (rest := []) dm_X12_noun_250 rfl (q_inv (As := []) (S := []) hm rfl rfl rfl) rfl rfl rfl (hE (f + 1) (by omega) _ t3 (j_ea + 1) (o + 1) (by omega) t3D t351 t352 t3RM (by omega) (by omega) (by omega)) ?_
                  rintro x_t4 h_t4 hxt4
                  obtain ⟨t4, rfl, t4R, t4D, t451, t452, t4M, neb, Beb, rfl, t4p, t4q, t4B, t4C⟩ := RQ_v eb hxt4
                  have t4M : RMd T t3 t4 (j_ea + 1) j_eb 0 (-1) := t4M
                  have hjeb := pR_mk hK _ 0 _ _ _ (show j_ea + 1 ≤ mk by omega) eb
                  have hjjeb := hjeb.2.2 (by decide)
                  obtain ⟨t4a, t4b, t4c⟩ := id t4M
                  have P_eb := P_ln hK j_eb
                  have t4_n : t3.1 50 ≤ t4.1 50 := t4R.2.1
                  refine me1 (pc' := 255) (L' := [(4, ii (neb : Int)), (3, ii (nea : Int)), (2, ii (-1)), (1, ii ((tqP (T i) : Nat) : Int)), (0, .ref 102)]) (S' := []) dm_X12_noun_253 rfl rfl rfl rfl ?_
                  refine me1 (pc' := 256) (L' := [(4, ii (neb : Int)), (3, ii (nea : Int)), (2, ii (-1)), (1, ii ((tqP (T i) : Nat) : Int)), (0, .ref 102)]) (S' := [.ref 102]) dm_X12_noun_255 rfl rfl rfl rfl ?_
                  refine me0 (pc' := 258) (S' := [ii 59, .ref 102]) dm_X12_noun_256 rfl rfl rfl rfl ?_
                  by_cases hmb : isMk T j_eb 59
                  · have lhmb := TOKS_lt hK (i := j_eb) (by have := hmb.1; omega)
                    have Phmb := hK.2.2.2.2.2.2.1 j_eb lhmb
                    have Qhmb := P_ln hK (j_eb + 1)
                    refine x_cn (pc' := 261) (rest := []) dm_X12_noun_258 rfl (q_inv (As := [ii 59]) (S := []) hm rfl rfl rfl) rfl rfl rfl (r_needsT (s := t4) (i := j_eb) hm (by omega) hT hK t4D (by decide) t452 hmb (by omega)) ?_
                    rintro _ ⟨t5, rfl, kt5, t5D, t5510, t552⟩
                    obtain ⟨-, t5x, t5y, t5z, -⟩ := id kt5
                    have t551 : t5.1 51 = ((o + 1 : Nat) : Int) := t5510.trans t451
                    have t5RM : RM T ln t5 (j_eb + 1) := RM_d t3RM (rdR_tr t4R kt5.1) (RMd_tr t4M (RMd_T (j := j_eb + 1) kt5 (by omega))) (by omega)
                    refine me1 (pc' := 262) (L' := [(4, ii (neb : Int)), (3, ii (nea : Int)), (2, ii (-1)), (1, ii ((tqP (T i) : Nat) : Int)), (0, .ref 102)]) (S' := [.ref 102]) dm_X12_noun_261 rfl rfl rfl rfl ?_
                    rcases ec : pR T (f + 1) 0 (o + 1) (j_eb + 1) with p_ec | j_ec
                    · refine x_cv (pc' := 265) (rest := []) dm_X12_noun_262 rfl (q_inv (As := []) (S := []) hm rfl rfl rfl) rfl rfl rfl (hE (f + 1) (by omega) _ t5 (j_eb + 1) (o + 1) (by omega) t5D t551 t552 t5RM (by omega) (by omega) (by omega)) ?_
                      rintro x_t6 h_t6 hxt6
                      obtain ⟨t6, t6v, rfl, rfl, t6R, t652, t6E⟩ := RQ_e ec hxt6
                      have hplt6 := pR_ln hK _ _ _ _ _ ec
                      have bd : 0 ≤ t6.1 52 ∧ t6.1 52 ≤ 1000 := by omega
                      obtain ⟨t6a, t6b, t6c⟩ := id t6E
                      have t6_n : t5.1 50 ≤ t6.1 50 := t6R.2.1
                      refine me1 (pc' := 267) (L' := [(5, ii t6v), (4, ii (neb : Int)), (3, ii (nea : Int)), (2, ii (-1)), (1, ii ((tqP (T i) : Nat) : Int)), (0, .ref 102)]) (S' := []) dm_X12_noun_265 rfl rfl rfl rfl ?_
                      refine me1 (pc' := 268) (L' := [(5, ii t6v), (4, ii (neb : Int)), (3, ii (nea : Int)), (2, ii (-1)), (1, ii ((tqP (T i) : Nat) : Int)), (0, .ref 102)]) (S' := [.ref 102]) dm_X12_noun_267 rfl rfl rfl rfl ?_
                      refine me0 (pc' := 270) (S' := [ii 93, .ref 102]) dm_X12_noun_268 rfl rfl rfl rfl ?_
                      refine x_cn (pc' := 273) (rest := []) dm_X12_noun_270 rfl (q_inv (As := [ii 93]) (S := []) hm rfl rfl rfl) rfl rfl rfl (r_closesB (s := t6) hm (by omega) bd) ?_
                      rintro _ ⟨t7, rfl, kt7, t752⟩
                      obtain ⟨-, t7x, t7y, t7z, -⟩ := id kt7
                      refine me1 (pc' := 274) (L' := [(5, ii t6v), (4, ii (neb : Int)), (3, ii (nea : Int)), (2, ii (-1)), (1, ii ((tqP (T i) : Nat) : Int)), (0, .ref 102)]) (S' := [.ref 102]) dm_X12_noun_273 rfl rfl rfl rfl ?_
                      refine me0 (pc' := 275) (S' := [ii 4, .ref 102]) dm_X12_noun_274 rfl rfl rfl rfl ?_
                      refine me1 (pc' := 276) (L' := [(5, ii t6v), (4, ii (neb : Int)), (3, ii (nea : Int)), (2, ii (-1)), (1, ii ((tqP (T i) : Nat) : Int)), (0, .ref 102)]) (S' := [ii (nea : Int), ii 4, .ref 102]) dm_X12_noun_275 rfl rfl rfl rfl ?_
                      refine me1 (pc' := 278) (L' := [(5, ii t6v), (4, ii (neb : Int)), (3, ii (nea : Int)), (2, ii (-1)), (1, ii ((tqP (T i) : Nat) : Int)), (0, .ref 102)]) (S' := [ii (neb : Int), ii (nea : Int), ii 4, .ref 102]) dm_X12_noun_276 rfl rfl rfl rfl ?_
                      refine me1 (pc' := 280) (L' := [(5, ii t6v), (4, ii (neb : Int)), (3, ii (nea : Int)), (2, ii (-1)), (1, ii ((tqP (T i) : Nat) : Int)), (0, .ref 102)]) (S' := [ii t6v, ii (neb : Int), ii (nea : Int), ii 4, .ref 102]) dm_X12_noun_278 rfl rfl rfl rfl ?_
                      refine me1 (pc' := 281) (L' := [(5, ii t6v), (4, ii (neb : Int)), (3, ii (nea : Int)), (2, ii (-1)), (1, ii ((tqP (T i) : Nat) : Int)), (0, .ref 102)]) (S' := [ii ((tqP (T i) : Nat) : Int), ii t6v, ii (neb : Int), ii (nea : Int), ii 4, .ref 102]) dm_X12_noun_280 rfl rfl rfl rfl ?_
                      obtain ⟨N, hN⟩ : ∃ N : Nat, t7.1 50 = (N : Int) := ⟨(t7.1 50).toNat, by omega⟩
                      refine x_cv (pc' := 284) (rest := []) dm_X12_noun_281 rfl (q_inv (As := [ii 4, ii (nea : Int), ii (neb : Int), ii t6v, ii ((tqP (T i) : Nat) : Int)]) (S := []) hm rfl rfl rfl) rfl rfl rfl (r_node_ (s := t7) (N := N) hm (by omega) hN (by omega)) ?_
                      rintro _ _ ⟨rfl, rfl⟩
                      have ni := nod_i t7 N 4 (nea : Int) (neb : Int) t6v ((tqP (T i) : Nat) : Int)
                      have nr := rdR_nod hN 4 (nea : Int) (neb : Int) t6v ((tqP (T i) : Nat) : Int)
                      have n3 := ni.2 3 (by decide)
                      have n4 := ni.2 4 (by decide)
                      have n52 := ni.2 52 (by decide)
                      have n51 := ni.2 51 (by decide)
                      have n50 := ni.1
                      have na := nod_at t7 N 4 (nea : Int) (neb : Int) t6v ((tqP (T i) : Nat) : Int)
                      refine me1 (pc' := 285) (L' := [(2, ii (N : Int)), (5, ii t6v), (4, ii (neb : Int)), (3, ii (nea : Int)), (1, ii ((tqP (T i) : Nat) : Int)), (0, .ref 102)]) (S' := []) dm_X12_noun_284 rfl rfl rfl rfl ?_
                      refine me1 (pc' := 286) (L' := [(2, ii (N : Int)), (5, ii t6v), (4, ii (neb : Int)), (3, ii (nea : Int)), (1, ii ((tqP (T i) : Nat) : Int)), (0, .ref 102)]) (S' := [.ref 102]) dm_X12_noun_285 rfl rfl rfl rfl ?_
                      refine me3 (pc' := 289) (S' := [ii (((nodS t7 N 4 (nea : Int) (neb : Int) t6v ((tqP (T i) : Nat) : Int)).1) 52)]) dm_X12_noun_286 (q_geti (v := ((nodS t7 N 4 (nea : Int) (neb : Int) t6v ((tqP (T i) : Nat) : Int)).1) 52) hm rfl (fun m i l => rg_52 m i l) rfl) rfl rfl rfl ?_
                      refine y_1ge (a := ((nodS t7 N 4 (nea : Int) (neb : Int) t6v ((tqP (T i) : Nat) : Int)).1) 52) (t := 347) (pc' := 292) dm_X12_noun_289 rfl rfl (by omega) (fun hb8 => ?_) (fun hb8 => ?_)
                      · refine me1 (pc' := 348) (L' := [(2, ii (N : Int)), (5, ii t6v), (4, ii (neb : Int)), (3, ii (nea : Int)), (1, ii ((tqP (T i) : Nat) : Int)), (0, .ref 102)]) (S' := [ii (N : Int)]) dm_X12_noun_347 rfl rfl rfl rfl ?_
                        refine y_ret (r := some (ii (N : Int))) dm_X12_noun_348 rfl rfl rfl ?_
                        exact ⟨_, rfl, RQ_ie (pR1_e (pR3_c5 h91 (by omega) ea hma eb hmb ec)) (rdR_tr (rdR_tr (rdR_tr (rdR_tr (rdR_tr (rdR_tr (rdR_tr hk1.1 t2R) kt3.1) t4R) kt5.1) t6R) kt7.1) nr) (n52.trans (t752.trans t652)) ⟨by omega, by omega, by omega⟩⟩
                      · exfalso; omega
                    · refine x_cv (pc' := 265) (rest := []) dm_X12_noun_262 rfl (q_inv (As := []) (S := []) hm rfl rfl rfl) rfl rfl rfl (hE (f + 1) (by omega) _ t5 (j_eb + 1) (o + 1) (by omega) t5D t551 t552 t5RM (by omega) (by omega) (by omega)) ?_
                      rintro x_t6 h_t6 hxt6
                      obtain ⟨t6, rfl, t6R, t6D, t651, t652, t6M, nec, Bec, rfl, t6p, t6q, t6B, t6C⟩ := RQ_v ec hxt6
                      have t6M : RMd T t5 t6 (j_eb + 1) j_ec 0 (-1) := t6M
                      have hjec := pR_mk hK _ 0 _ _ _ (show j_eb + 1 ≤ mk by omega) ec
                      have hjjec := hjec.2.2 (by decide)
                      obtain ⟨t6a, t6b, t6c⟩ := id t6M
                      have P_ec := P_ln hK j_ec
                      have t6_n : t5.1 50 ≤ t6.1 50 := t6R.2.1
                      refine me1 (pc' := 267) (L' := [(5, ii (nec : Int)), (4, ii (neb : Int)), (3, ii (nea : Int)), (2, ii (-1)), (1, ii ((tqP (T i) : Nat) : Int)), (0, .ref 102)]) (S' := []) dm_X12_noun_265 rfl rfl rfl rfl ?_
                      refine me1 (pc' := 268) (L' := [(5, ii (nec : Int)), (4, ii (neb : Int)), (3, ii (nea : Int)), (2, ii (-1)), (1, ii ((tqP (T i) : Nat) : Int)), (0, .ref 102)]) (S' := [.ref 102]) dm_X12_noun_267 rfl rfl rfl rfl ?_
                      refine me0 (pc' := 270) (S' := [ii 93, .ref 102]) dm_X12_noun_268 rfl rfl rfl rfl ?_
                      by_cases hmc : isMk T j_ec 93
                      · have lhmc := TOKS_lt hK (i := j_ec) (by have := hmc.1; omega)
                        have Phmc := hK.2.2.2.2.2.2.1 j_ec lhmc
                        have Qhmc := P_ln hK (j_ec + 1)
                        refine x_cn (pc' := 273) (rest := []) dm_X12_noun_270 rfl (q_inv (As := [ii 93]) (S := []) hm rfl rfl rfl) rfl rfl rfl (r_closesT (s := t6) (i := j_ec) (o := o) hm (by omega) hT hK t6D (by decide) t651 t652 hmc (by omega)) ?_
                        rintro _ ⟨t7, rfl, kt7, t7D, t751, t752⟩
                        obtain ⟨-, t7x, t7y, t7z, -⟩ := id kt7
                        refine me1 (pc' := 274) (L' := [(5, ii (nec : Int)), (4, ii (neb : Int)), (3, ii (nea : Int)), (2, ii (-1)), (1, ii ((tqP (T i) : Nat) : Int)), (0, .ref 102)]) (S' := [.ref 102]) dm_X12_noun_273 rfl rfl rfl rfl ?_
                        refine me0 (pc' := 275) (S' := [ii 4, .ref 102]) dm_X12_noun_274 rfl rfl rfl rfl ?_
                        refine me1 (pc' := 276) (L' := [(5, ii (nec : Int)), (4, ii (neb : Int)), (3, ii (nea : Int)), (2, ii (-1)), (1, ii ((tqP (T i) : Nat) : Int)), (0, .ref 102)]) (S' := [ii (nea : Int), ii 4, .ref 102]) dm_X12_noun_275 rfl rfl rfl rfl ?_
                        refine me1 (pc' := 278) (L' := [(5, ii (nec : Int)), (4, ii (neb : Int)), (3, ii (nea : Int)), (2, ii (-1)), (1, ii ((tqP (T i) : Nat) : Int)), (0, .ref 102)]) (S' := [ii (neb : Int), ii (nea : Int), ii 4, .ref 102]) dm_X12_noun_276 rfl rfl rfl rfl ?_
                        refine me1 (pc' := 280) (L' := [(5, ii (nec : Int)), (4, ii (neb : Int)), (3, ii (nea : Int)), (2, ii (-1)), (1, ii ((tqP (T i) : Nat) : Int)), (0, .ref 102)]) (S' := [ii (nec : Int), ii (neb : Int), ii (nea : Int), ii 4, .ref 102]) dm_X12_noun_278 rfl rfl rfl rfl ?_
                        refine me1 (pc' := 281) (L' := [(5, ii (nec : Int)), (4, ii (neb : Int)), (3, ii (nea : Int)), (2, ii (-1)), (1, ii ((tqP (T i) : Nat) : Int)), (0, .ref 102)]) (S' := [ii ((tqP (T i) : Nat) : Int), ii (nec : Int), ii (neb : Int), ii (nea : Int), ii 4, .ref 102]) dm_X12_noun_280 rfl rfl rfl rfl ?_
                        obtain ⟨N, hN⟩ : ∃ N : Nat, t7.1 50 = (N : Int) := ⟨(t7.1 50).toNat, by omega⟩
                        refine x_cv (pc' := 284) (rest := []) dm_X12_noun_281 rfl (q_inv (As := [ii 4, ii (nea : Int), ii (neb : Int), ii (nec : Int), ii ((tqP (T i) : Nat) : Int)]) (S := []) hm rfl rfl rfl) rfl rfl rfl (r_node_ (s := t7) (N := N) hm (by omega) hN (by omega)) ?_
                        rintro _ _ ⟨rfl, rfl⟩
                        have ni := nod_i t7 N 4 (nea : Int) (neb : Int) (nec : Int) ((tqP (T i) : Nat) : Int)
                        have nr := rdR_nod hN 4 (nea : Int) (neb : Int) (nec : Int) ((tqP (T i) : Nat) : Int)
                        have n3 := ni.2 3 (by decide)
                        have n4 := ni.2 4 (by decide)
                        have n52 := ni.2 52 (by decide)
                        have n51 := ni.2 51 (by decide)
                        have n50 := ni.1
                        have na := nod_at t7 N 4 (nea : Int) (neb : Int) (nec : Int) ((tqP (T i) : Nat) : Int)
                        refine me1 (pc' := 285) (L' := [(2, ii (N : Int)), (5, ii (nec : Int)), (4, ii (neb : Int)), (3, ii (nea : Int)), (1, ii ((tqP (T i) : Nat) : Int)), (0, .ref 102)]) (S' := []) dm_X12_noun_284 rfl rfl rfl rfl ?_
                        exact pg_sub (L := [(0, .ref 102), (2, ii (N : Int))]) rfl rfl rfl (r_nounT (d := d) hm hd hT hK hE hRM ho12 hhi (NJ_0 (B := N + 1) ((pR3_c6 h91 (by omega) ea hma eb hmb ec).trans (if_pos hmc)) (RD_fr nr (tkE_nod t7 N 4 (nea : Int) (neb : Int) (nec : Int) ((tqP (T i) : Nat) : Int)) t7D) (n51.trans t751) (n52.trans t752) (rdR_tr hk1.1 (rdR_tr t2R (rdR_tr kt3.1 (rdR_tr t4R (rdR_tr kt5.1 (rdR_tr t6R (rdR_tr kt7.1 nr))))))) ⟨by omega, by omega, by omega⟩ (by omega) (by omega) n50 ((rR_c h91 ea eb).mpr ⟨nea, neb, nec, ⟨by omega, by omega, by omega, by omega⟩, rR_k _ _ _ _ _ _ _ _ _ _ (ndK_d (rdR_tr kt3.1 (rdR_tr t4R (rdR_tr kt5.1 (rdR_tr t6R (rdR_tr kt7.1 nr))))) (show ((Bea : Nat) : Int) ≤ t2.1 50 by omega)) (by omega) t2C, rR_k _ _ _ _ _ _ _ _ _ _ (ndK_d (rdR_tr kt5.1 (rdR_tr t6R (rdR_tr kt7.1 nr))) (show ((Beb : Nat) : Int) ≤ t4.1 50 by omega)) (by omega) t4C, rR_k _ _ _ _ _ _ _ _ _ _ (ndK_d (rdR_tr kt7.1 nr) (show ((Bec : Nat) : Int) ≤ t6.1 50 by omega)) (by omega) t6C, na.1, na.2.1, na.2.2.1, na.2.2.2.1, na.2.2.2.2.1⟩) ⟨by omega, by omega⟩ (by omega)))
                      · refine x_cn (pc' := 273) (rest := []) dm_X12_noun_270 rfl (q_inv (As := [ii 93]) (S := []) hm rfl rfl rfl) rfl rfl rfl (r_closesF (s := t6) (i := j_ec) hm (by omega) hT hK t6D (by decide) t652 hmc) ?_
                        rintro _ ⟨t7, rfl, kt7, t752⟩
                        obtain ⟨-, t7x, t7y, t7z, -⟩ := id kt7
                        have bd : 0 ≤ t7.1 52 ∧ t7.1 52 ≤ 1000 := by omega
                        refine me1 (pc' := 274) (L' := [(5, ii (nec : Int)), (4, ii (neb : Int)), (3, ii (nea : Int)), (2, ii (-1)), (1, ii ((tqP (T i) : Nat) : Int)), (0, .ref 102)]) (S' := [.ref 102]) dm_X12_noun_273 rfl rfl rfl rfl ?_
                        refine me0 (pc' := 275) (S' := [ii 4, .ref 102]) dm_X12_noun_274 rfl rfl rfl rfl ?_
                        refine me1 (pc' := 276) (L' := [(5, ii (nec : Int)), (4, ii (neb : Int)), (3, ii (nea : Int)), (2, ii (-1)), (1, ii ((tqP (T i) : Nat) : Int)), (0, .ref 102)]) (S' := [ii (nea : Int), ii 4, .ref 102]) dm_X12_noun_275 rfl rfl rfl rfl ?_
                        refine me1 (pc' := 278) (L' := [(5, ii (nec : Int)), (4, ii (neb : Int)), (3, ii (nea : Int)), (2, ii (-1)), (1, ii ((tqP (T i) : Nat) : Int)), (0, .ref 102)]) (S' := [ii (neb : Int), ii (nea : Int), ii 4, .ref 102]) dm_X12_noun_276 rfl rfl rfl rfl ?_
                        refine me1 (pc' := 280) (L' := [(5, ii (nec : Int)), (4, ii (neb : Int)), (3, ii (nea : Int)), (2, ii (-1)), (1, ii ((tqP (T i) : Nat) : Int)), (0, .ref 102)]) (S' := [ii (nec : Int), ii (neb : Int), ii (nea : Int), ii 4, .ref 102]) dm_X12_noun_278 rfl rfl rfl rfl ?_
                        refine me1 (pc' := 281) (L' := [(5, ii (nec : Int)), (4, ii (neb : Int)), (3, ii (nea : Int)), (2, ii (-1)), (1, ii ((tqP (T i) : Nat) : Int)), (0, .ref 102)]) (S' := [ii ((tqP (T i) : Nat) : Int), ii (nec : Int), ii (neb : Int), ii (nea : Int), ii 4, .ref 102]) dm_X12_noun_280 rfl rfl rfl rfl ?_
                        obtain ⟨N, hN⟩ : ∃ N : Nat, t7.1 50 = (N : Int) := ⟨(t7.1 50).toNat, by omega⟩
                        refine x_cv (pc' := 284) (rest := []) dm_X12_noun_281 rfl (q_inv (As := [ii 4, ii (nea : Int), ii (neb : Int), ii (nec : Int), ii ((tqP (T i) : Nat) : Int)]) (S := []) hm rfl rfl rfl) rfl rfl rfl (r_node_ (s := t7) (N := N) hm (by omega) hN (by omega)) ?_
                        rintro _ _ ⟨rfl, rfl⟩
                        have ni := nod_i t7 N 4 (nea : Int) (neb : Int) (nec : Int) ((tqP (T i) : Nat) : Int)
                        have nr := rdR_nod hN 4 (nea : Int) (neb : Int) (nec : Int) ((tqP (T i) : Nat) : Int)
                        have n3 := ni.2 3 (by decide)
                        have n4 := ni.2 4 (by decide)
                        have n52 := ni.2 52 (by decide)
                        have n51 := ni.2 51 (by decide)
                        have n50 := ni.1
                        have na := nod_at t7 N 4 (nea : Int) (neb : Int) (nec : Int) ((tqP (T i) : Nat) : Int)
                        refine me1 (pc' := 285) (L' := [(2, ii (N : Int)), (5, ii (nec : Int)), (4, ii (neb : Int)), (3, ii (nea : Int)), (1, ii ((tqP (T i) : Nat) : Int)), (0, .ref 102)]) (S' := []) dm_X12_noun_284 rfl rfl rfl rfl ?_
                        refine me1 (pc' := 286) (L' := [(2, ii (N : Int)), (5, ii (nec : Int)), (4, ii (neb : Int)), (3, ii (nea : Int)), (1, ii ((tqP (T i) : Nat) : Int)), (0, .ref 102)]) (S' := [.ref 102]) dm_X12_noun_285 rfl rfl rfl rfl ?_
                        refine me3 (pc' := 289) (S' := [ii (((nodS t7 N 4 (nea : Int) (neb : Int) (nec : Int) ((tqP (T i) : Nat) : Int)).1) 52)]) dm_X12_noun_286 (q_geti (v := ((nodS t7 N 4 (nea : Int) (neb : Int) (nec : Int) ((tqP (T i) : Nat) : Int)).1) 52) hm rfl (fun m i l => rg_52 m i l) rfl) rfl rfl rfl ?_
                        refine y_1ge (a := ((nodS t7 N 4 (nea : Int) (neb : Int) (nec : Int) ((tqP (T i) : Nat) : Int)).1) 52) (t := 347) (pc' := 292) dm_X12_noun_289 rfl rfl (by omega) (fun hb9 => ?_) (fun hb9 => ?_)
                        · refine me1 (pc' := 348) (L' := [(2, ii (N : Int)), (5, ii (nec : Int)), (4, ii (neb : Int)), (3, ii (nea : Int)), (1, ii ((tqP (T i) : Nat) : Int)), (0, .ref 102)]) (S' := [ii (N : Int)]) dm_X12_noun_347 rfl rfl rfl rfl ?_
                          refine y_ret (r := some (ii (N : Int))) dm_X12_noun_348 rfl rfl rfl ?_
                          exact ⟨_, rfl, RQ_ie (pR1_e ((pR3_c6 h91 (by omega) ea hma eb hmb ec).trans (if_neg hmc))) (rdR_tr (rdR_tr (rdR_tr (rdR_tr (rdR_tr (rdR_tr (rdR_tr hk1.1 t2R) kt3.1) t4R) kt5.1) t6R) kt7.1) nr) (n52.trans t752) ⟨by omega, by omega, by omega⟩⟩
                        · exfalso; omega
                  · refine x_cn (pc' := 261) (rest := []) dm_X12_noun_258 rfl (q_inv (As := [ii 59]) (S := []) hm rfl rfl rfl) rfl rfl rfl (r_needsF (s := t4) (i := j_eb) hm (by omega) hT hK t4D (by decide) t452 hmb) ?_
                    rintro _ ⟨t5, rfl, kt5, t552⟩
                    obtain ⟨-, t5x, t5y, t5z, -⟩ := id kt5
                    have bd : 0 ≤ t5.1 52 ∧ t5.1 52 ≤ 1000 := by omega
                    refine me1 (pc' := 262) (L' := [(4, ii (neb : Int)), (3, ii (nea : Int)), (2, ii (-1)), (1, ii ((tqP (T i) : Nat) : Int)), (0, .ref 102)]) (S' := [.ref 102]) dm_X12_noun_261 rfl rfl rfl rfl ?_
                    refine x_cv (pc' := 265) (rest := []) dm_X12_noun_262 rfl (q_inv (As := []) (S := []) hm rfl rfl rfl) rfl rfl rfl (r_exprB (s := t5) hm (by omega) bd) ?_
                    rintro _ _ ⟨rfl, rfl⟩
                    refine me1 (pc' := 267) (L' := [(5, ii (-1)), (4, ii (neb : Int)), (3, ii (nea : Int)), (2, ii (-1)), (1, ii ((tqP (T i) : Nat) : Int)), (0, .ref 102)]) (S' := []) dm_X12_noun_265 rfl rfl rfl rfl ?_
                    refine me1 (pc' := 268) (L' := [(5, ii (-1)), (4, ii (neb : Int)), (3, ii (nea : Int)), (2, ii (-1)), (1, ii ((tqP (T i) : Nat) : Int)), (0, .ref 102)]) (S' := [.ref 102]) dm_X12_noun_267 rfl rfl rfl rfl ?_
                    refine me0 (pc' := 270) (S' := [ii 93, .ref 102]) dm_X12_noun_268 rfl rfl rfl rfl ?_
                    refine x_cn (pc' := 273) (rest := []) dm_X12_noun_270 rfl (q_inv (As := [ii 93]) (S := []) hm rfl rfl rfl) rfl rfl rfl (r_closesB (s := t5) hm (by omega) bd) ?_
                    rintro _ ⟨t7, rfl, kt7, t752⟩
                    obtain ⟨-, t7x, t7y, t7z, -⟩ := id kt7
                    refine me1 (pc' := 274) (L' := [(5, ii (-1)), (4, ii (neb : Int)), (3, ii (nea : Int)), (2, ii (-1)), (1, ii ((tqP (T i) : Nat) : Int)), (0, .ref 102)]) (S' := [.ref 102]) dm_X12_noun_273 rfl rfl rfl rfl ?_
                    refine me0 (pc' := 275) (S' := [ii 4, .ref 102]) dm_X12_noun_274 rfl rfl rfl rfl ?_
                    refine me1 (pc' := 276) (L' := [(5, ii (-1)), (4, ii (neb : Int)), (3, ii (nea : Int)), (2, ii (-1)), (1, ii ((tqP (T i) : Nat) : Int)), (0, .ref 102)]) (S' := [ii (nea : Int), ii 4, .ref 102]) dm_X12_noun_275 rfl rfl rfl rfl ?_
                    refine me1 (pc' := 278) (L' := [(5, ii (-1)), (4, ii (neb : Int)), (3, ii (nea : Int)), (2, ii (-1)), (1, ii ((tqP (T i) : Nat) : Int)), (0, .ref 102)]) (S' := [ii (neb : Int), ii (nea : Int), ii 4, .ref 102]) dm_X12_noun_276 rfl rfl rfl rfl ?_
                    refine me1 (pc' := 280) (L' := [(5, ii (-1)), (4, ii (neb : Int)), (3, ii (nea : Int)), (2, ii (-1)), (1, ii ((tqP (T i) : Nat) : Int)), (0, .ref 102)]) (S' := [ii (-1), ii (neb : Int), ii (nea : Int), ii 4, .ref 102]) dm_X12_noun_278 rfl rfl rfl rfl ?_
                    refine me1 (pc' := 281) (L' := [(5, ii (-1)), (4, ii (neb : Int)), (3, ii (nea : Int)), (2, ii (-1)), (1, ii ((tqP (T i) : Nat) : Int)), (0, .ref 102)]) (S' := [ii ((tqP (T i) : Nat) : Int), ii (-1), ii (neb : Int), ii (nea : Int), ii 4, .ref 102]) dm_X12_noun_280 rfl rfl rfl rfl ?_
                    obtain ⟨N, hN⟩ : ∃ N : Nat, t7.1 50 = (N : Int) := ⟨(t7.1 50).toNat, by omega⟩
                    refine x_cv (pc' := 284) (rest := []) dm_X12_noun_281 rfl (q_inv (As := [ii 4, ii (nea : Int), ii (neb : Int), ii (-1), ii ((tqP (T i) : Nat) : Int)]) (S := []) hm rfl rfl rfl) rfl rfl rfl (r_node_ (s := t7) (N := N) hm (by omega) hN (by omega)) ?_
                    rintro _ _ ⟨rfl, rfl⟩
                    have ni := nod_i t7 N 4 (nea : Int) (neb : Int) (-1) ((tqP (T i) : Nat) : Int)
                    have nr := rdR_nod hN 4 (nea : Int) (neb : Int) (-1) ((tqP (T i) : Nat) : Int)
                    have n3 := ni.2 3 (by decide)
                    have n4 := ni.2 4 (by decide)
                    have n52 := ni.2 52 (by decide)
                    have n51 := ni.2 51 (by decide)
                    have n50 := ni.1
                    have na := nod_at t7 N 4 (nea : Int) (neb : Int) (-1) ((tqP (T i) : Nat) : Int)
                    refine me1 (pc' := 285) (L' := [(2, ii (N : Int)), (5, ii (-1)), (4, ii (neb : Int)), (3, ii (nea : Int)), (1, ii ((tqP (T i) : Nat) : Int)), (0, .ref 102)]) (S' := []) dm_X12_noun_284 rfl rfl rfl rfl ?_
                    refine me1 (pc' := 286) (L' := [(2, ii (N : Int)), (5, ii (-1)), (4, ii (neb : Int)), (3, ii (nea : Int)), (1, ii ((tqP (T i) : Nat) : Int)), (0, .ref 102)]) (S' := [.ref 102]) dm_X12_noun_285 rfl rfl rfl rfl ?_
                    refine me3 (pc' := 289) (S' := [ii (((nodS t7 N 4 (nea : Int) (neb : Int) (-1) ((tqP (T i) : Nat) : Int)).1) 52)]) dm_X12_noun_286 (q_geti (v := ((nodS t7 N 4 (nea : Int) (neb : Int) (-1) ((tqP (T i) : Nat) : Int)).1) 52) hm rfl (fun m i l => rg_52 m i l) rfl) rfl rfl rfl ?_
                    refine y_1ge (a := ((nodS t7 N 4 (nea : Int) (neb : Int) (-1) ((tqP (T i) : Nat) : Int)).1) 52) (t := 347) (pc' := 292) dm_X12_noun_289 rfl rfl (by omega) (fun hb10 => ?_) (fun hb10 => ?_)
                    · refine me1 (pc' := 348) (L' := [(2, ii (N : Int)), (5, ii (-1)), (4, ii (neb : Int)), (3, ii (nea : Int)), (1, ii ((tqP (T i) : Nat) : Int)), (0, .ref 102)]) (S' := [ii (N : Int)]) dm_X12_noun_347 rfl rfl rfl rfl ?_
                      refine y_ret (r := some (ii (N : Int))) dm_X12_noun_348 rfl rfl rfl ?_
                      exact ⟨_, rfl, RQ_ie (pR1_e (pR3_c4 h91 (by omega) ea hma eb hmb)) (rdR_tr (rdR_tr (rdR_tr (rdR_tr (rdR_tr (rdR_tr hk1.1 t2R) kt3.1) t4R) kt5.1) kt7.1) nr) (n52.trans (t752.trans t552)) ⟨by omega, by omega, by omega⟩⟩
                    · exfalso; omega
              · refine x_cn (pc' := 249) (rest := []) dm_X12_noun_246 rfl (q_inv (As := [ii 59]) (S := []) hm rfl rfl rfl) rfl rfl rfl (r_needsF (s := t2) (i := j_ea) hm (by omega) hT hK t2D (by decide) t252 hma) ?_
                rintro _ ⟨t3, rfl, kt3, t352⟩
                obtain ⟨-, t3x, t3y, t3z, -⟩ := id kt3
                have bd : 0 ≤ t3.1 52 ∧ t3.1 52 ≤ 1000 := by omega
                refine me1 (pc' := 250) (L' := [(3, ii (nea : Int)), (2, ii (-1)), (1, ii ((tqP (T i) : Nat) : Int)), (0, .ref 102)]) (S' := [.ref 102]) dm_X12_noun_249 rfl rfl rfl rfl ?_
                refine x_cv (pc' := 253) (rest := []) dm_X12_noun_250 rfl (q_inv (As := []) (S := []) hm rfl rfl rfl) rfl rfl rfl (r_exprB (s := t3) hm (by omega) bd) ?_
                rintro _ _ ⟨rfl, rfl⟩
                refine me1 (pc' := 255) (L' := [(4, ii (-1)), (3, ii (nea : Int)), (2, ii (-1)), (1, ii ((tqP (T i) : Nat) : Int)), (0, .ref 102)]) (S' := []) dm_X12_noun_253 rfl rfl rfl rfl ?_
                refine me1 (pc' := 256) (L' := [(4, ii (-1)), (3, ii (nea : Int)), (2, ii (-1)), (1, ii ((tqP (T i) : Nat) : Int)), (0, .ref 102)]) (S' := [.ref 102]) dm_X12_noun_255 rfl rfl rfl rfl ?_
                refine me0 (pc' := 258) (S' := [ii 59, .ref 102]) dm_X12_noun_256 rfl rfl rfl rfl ?_
                refine x_cn (pc' := 261) (rest := []) dm_X12_noun_258 rfl (q_inv (As := [ii 59]) (S := []) hm rfl rfl rfl) rfl rfl rfl (r_needsB (s := t3) hm (by omega) bd) ?_
                rintro _ rfl
                refine me1 (pc' := 262) (L' := [(4, ii (-1)), (3, ii (nea : Int)), (2, ii (-1)), (1, ii ((tqP (T i) : Nat) : Int)), (0, .ref 102)]) (S' := [.ref 102]) dm_X12_noun_261 rfl rfl rfl rfl ?_
                refine x_cv (pc' := 265) (rest := []) dm_X12_noun_262 rfl (q_inv (As := []) (S := []) hm rfl rfl rfl) rfl rfl rfl (r_exprB (s := t3) hm (by omega) bd) ?_
                rintro _ _ ⟨rfl, rfl⟩
                refine me1 (pc' := 267) (L' := [(5, ii (-1)), (4, ii (-1)), (3, ii (nea : Int)), (2, ii (-1)), (1, ii ((tqP (T i) : Nat) : Int)), (0, .ref 102)]) (S' := []) dm_X12_noun_265 rfl rfl rfl rfl ?_
                refine me1 (pc' := 268) (L' := [(5, ii (-1)), (4, ii (-1)), (3, ii (nea : Int)), (2, ii (-1)), (1, ii ((tqP (T i) : Nat) : Int)), (0, .ref 102)]) (S' := [.ref 102]) dm_X12_noun_267 rfl rfl rfl rfl ?_
                refine me0 (pc' := 270) (S' := [ii 93, .ref 102]) dm_X12_noun_268 rfl rfl rfl rfl ?_
                refine x_cn (pc' := 273) (rest := []) dm_X12_noun_270 rfl (q_inv (As := [ii 93]) (S := []) hm rfl rfl rfl) rfl rfl rfl (r_closesB (s := t3) hm (by omega) bd) ?_
                rintro _ ⟨t7, rfl, kt7, t752⟩
                obtain ⟨-, t7x, t7y, t7z, -⟩ := id kt7
                refine me1 (pc' := 274) (L' := [(5, ii (-1)), (4, ii (-1)), (3, ii (nea : Int)), (2, ii (-1)), (1, ii ((tqP (T i) : Nat) : Int)), (0, .ref 102)]) (S' := [.ref 102]) dm_X12_noun_273 rfl rfl rfl rfl ?_
                refine me0 (pc' := 275) (S' := [ii 4, .ref 102]) dm_X12_noun_274 rfl rfl rfl rfl ?_
                refine me1 (pc' := 276) (L' := [(5, ii (-1)), (4, ii (-1)), (3, ii (nea : Int)), (2, ii (-1)), (1, ii ((tqP (T i) : Nat) : Int)), (0, .ref 102)]) (S' := [ii (nea : Int), ii 4, .ref 102]) dm_X12_noun_275 rfl rfl rfl rfl ?_
                refine me1 (pc' := 278) (L' := [(5, ii (-1)), (4, ii (-1)), (3, ii (nea : Int)), (2, ii (-1)), (1, ii ((tqP (T i) : Nat) : Int)), (0, .ref 102)]) (S' := [ii (-1), ii (nea : Int), ii 4, .ref 102]) dm_X12_noun_276 rfl rfl rfl rfl ?_
                refine me1 (pc' := 280) (L' := [(5, ii (-1)), (4, ii (-1)), (3, ii (nea : Int)), (2, ii (-1)), (1, ii ((tqP (T i) : Nat) : Int)), (0, .ref 102)]) (S' := [ii (-1), ii (-1), ii (nea : Int), ii 4, .ref 102]) dm_X12_noun_278 rfl rfl rfl rfl ?_
                refine me1 (pc' := 281) (L' := [(5, ii (-1)), (4, ii (-1)), (3, ii (nea : Int)), (2, ii (-1)), (1, ii ((tqP (T i) : Nat) : Int)), (0, .ref 102)]) (S' := [ii ((tqP (T i) : Nat) : Int), ii (-1), ii (-1), ii (nea : Int), ii 4, .ref 102]) dm_X12_noun_280 rfl rfl rfl rfl ?_
                obtain ⟨N, hN⟩ : ∃ N : Nat, t7.1 50 = (N : Int) := ⟨(t7.1 50).toNat, by omega⟩
                refine x_cv (pc' := 284) (rest := []) dm_X12_noun_281 rfl (q_inv (As := [ii 4, ii (nea : Int), ii (-1), ii (-1), ii ((tqP (T i) : Nat) : Int)]) (S := []) hm rfl rfl rfl) rfl rfl rfl (r_node_ (s := t7) (N := N) hm (by omega) hN (by omega)) ?_
                rintro _ _ ⟨rfl, rfl⟩
                have ni := nod_i t7 N 4 (nea : Int) (-1) (-1) ((tqP (T i) : Nat) : Int)
                have nr := rdR_nod hN 4 (nea : Int) (-1) (-1) ((tqP (T i) : Nat) : Int)
                have n3 := ni.2 3 (by decide)
                have n4 := ni.2 4 (by decide)
                have n52 := ni.2 52 (by decide)
                have n51 := ni.2 51 (by decide)
                have n50 := ni.1
                have na := nod_at t7 N 4 (nea : Int) (-1) (-1) ((tqP (T i) : Nat) : Int)
                refine me1 (pc' := 285) (L' := [(2, ii (N : Int)), (5, ii (-1)), (4, ii (-1)), (3, ii (nea : Int)), (1, ii ((tqP (T i) : Nat) : Int)), (0, .ref 102)]) (S' := []) dm_X12_noun_284 rfl rfl rfl rfl ?_
                refine me1 (pc' := 286) (L' := [(2, ii (N : Int)), (5, ii (-1)), (4, ii (-1)), (3, ii (nea : Int)), (1, ii ((tqP (T i) : Nat) : Int)), (0, .ref 102)]) (S' := [.ref 102]) dm_X12_noun_285 rfl rfl rfl rfl ?_
                refine me3 (pc' := 289) (S' := [ii (((nodS t7 N 4 (nea : Int) (-1) (-1) ((tqP (T i) : Nat) : Int)).1) 52)]) dm_X12_noun_286 (q_geti (v := ((nodS t7 N 4 (nea : Int) (-1) (-1) ((tqP (T i) : Nat) : Int)).1) 52) hm rfl (fun m i l => rg_52 m i l) rfl) rfl rfl rfl ?_
                refine y_1ge (a := ((nodS t7 N 4 (nea : Int) (-1) (-1) ((tqP (T i) : Nat) : Int)).1) 52) (t := 347) (pc' := 292) dm_X12_noun_289 rfl rfl (by omega) (fun hb11 => ?_) (fun hb11 => ?_)
                · refine me1 (pc' := 348) (L' := [(2, ii (N : Int)), (5, ii (-1)), (4, ii (-1)), (3, ii (nea : Int)), (1, ii ((tqP (T i) : Nat) : Int)), (0, .ref 102)]) (S' := [ii (N : Int)]) dm_X12_noun_347 rfl rfl rfl rfl ?_
                  refine y_ret (r := some (ii (N : Int))) dm_X12_noun_348 rfl rfl rfl ?_
                  exact ⟨_, rfl, RQ_ie (pR1_e (pR3_c2 h91 (by omega) ea hma)) (rdR_tr (rdR_tr (rdR_tr (rdR_tr hk1.1 t2R) kt3.1) kt7.1) nr) (n52.trans (t752.trans t352)) ⟨by omega, by omega, by omega⟩⟩
                · exfalso; omega
        · replace hb4 := dT hb4
          have hm40 := hb4
          refine me1 (pc' := 226) (L' := [(2, ii (-1)), (1, ii ((tqP (T i) : Nat) : Int)), (0, .ref 102)]) (S' := [.ref 102]) dm_X12_noun_225 rfl rfl rfl rfl ?_
          refine me1 (pc' := 227) (L' := [(2, ii (-1)), (1, ii ((tqP (T i) : Nat) : Int)), (0, .ref 102)]) (S' := [ii ((tqP (T i) : Nat) : Int), .ref 102]) dm_X12_noun_226 rfl rfl rfl rfl ?_
          rcases el : pR T (f + 2) 3 o i with p_el | j_el
          · have h40 := hm40
            refine x_cv (pc' := 230) (rest := []) dm_X12_noun_227 rfl (q_inv (As := [ii ((tqP (T i) : Nat) : Int)]) (S := []) hm rfl rfl rfl) rfl rfl rfl (r_list_ (s := s) (i := i) (o := o) (f := f) hm (by omega) hT hK hR (fun g hg => hE g (by omega)) ho h52 hRM ho12 hhi h40 (by have := TOKS_lt hK (i := i) (by have := h40.1; omega); omega)) ?_
            rintro xl hl_ hxl
            obtain ⟨tl, tlv, rfl, rfl, tlR, tl52, tlE⟩ := RQ_e el hxl
            have hpl := pR_ln hK _ _ _ _ _ el
            obtain ⟨tla, tlb, tlc⟩ := id tlE
            refine me1 (pc' := 231) (L' := [(2, ii tlv), (1, ii ((tqP (T i) : Nat) : Int)), (0, .ref 102)]) (S' := []) dm_X12_noun_230 rfl rfl rfl rfl ?_
            refine me2 (pc' := 285) (S' := []) dm_X12_noun_231 rfl rfl rfl ?_
            refine me1 (pc' := 286) (L' := [(2, ii tlv), (1, ii ((tqP (T i) : Nat) : Int)), (0, .ref 102)]) (S' := [.ref 102]) dm_X12_noun_285 rfl rfl rfl rfl ?_
            refine me3 (pc' := 289) (S' := [ii (tl.1 52)]) dm_X12_noun_286 (q_geti (v := tl.1 52) hm rfl (fun m i l => rg_52 m i l) rfl) rfl rfl rfl ?_
            refine y_1ge (a := tl.1 52) (t := 347) (pc' := 292) dm_X12_noun_289 rfl rfl (by omega) (fun hb12 => ?_) (fun hb12 => ?_)
            · refine me1 (pc' := 348) (L' := [(2, ii tlv), (1, ii ((tqP (T i) : Nat) : Int)), (0, .ref 102)]) (S' := [ii tlv]) dm_X12_noun_347 rfl rfl rfl rfl ?_
              refine y_ret (r := some (ii tlv)) dm_X12_noun_348 rfl rfl rfl ?_
              exact ⟨_, rfl, RQ_ie (pR1_e el) tlR tl52 ⟨by omega, by omega, by omega⟩⟩
            · exfalso; omega
          · have h40 := hm40
            refine x_cv (pc' := 230) (rest := []) dm_X12_noun_227 rfl (q_inv (As := [ii ((tqP (T i) : Nat) : Int)]) (S := []) hm rfl rfl rfl) rfl rfl rfl (r_list_ (s := s) (i := i) (o := o) (f := f) hm (by omega) hT hK hR (fun g hg => hE g (by omega)) ho h52 hRM ho12 hhi h40 (by have := TOKS_lt hK (i := i) (by have := h40.1; omega); omega)) ?_
            rintro xl hl_ hxl
            obtain ⟨tl, rfl, tlR, tlD, tl51, tl52, tlM, nl, Bl, rfl, tlp, tlq, tlB, tlC⟩ := RQ_v el hxl
            have hjl := pR_mk hK _ 3 _ _ _ hi1 el
            have hjj := hjl.2.2 (by decide)
            refine me1 (pc' := 231) (L' := [(2, ii (nl : Int)), (1, ii ((tqP (T i) : Nat) : Int)), (0, .ref 102)]) (S' := []) dm_X12_noun_230 rfl rfl rfl rfl ?_
            refine me2 (pc' := 285) (S' := []) dm_X12_noun_231 rfl rfl rfl ?_
            exact pg_sub (L := [(0, .ref 102), (2, ii (nl : Int))]) rfl rfl rfl (r_nounT (d := d) hm hd hT hK hE hRM ho12 hhi (NJ_0 el tlD tl51 tl52 tlR tlM tlp tlq tlB tlC ⟨hjj, hjl.2.1⟩ (by omega)))
      · have hs3 : tqS (T i) = 3 := by omega
        have hil := TOKS_lt hK (i := i) (by omega)
        have hPi := hK.2.2.2.2.2.2.1 i hil
        have hPi1 := P_ln hK (i + 1)
        have h41 : s.2.1 41 = Int64.ofInt (tqR (T i)) := by rw [hT]; exact RD_dn hR (by rw [← hT]; omega)
        refine me1 (pc' := 190) (L' := [(2, ii (-1)), (1, ii ((tqP (T i) : Nat) : Int)), (0, .ref 102)]) (S' := [.ref 102]) dm_X12_noun_189 rfl rfl rfl rfl ?_
        refine me0 (pc' := 191) (S' := [ii 2, .ref 102]) dm_X12_noun_190 rfl rfl rfl rfl ?_
        refine me0 (pc' := 192) (S' := [ii 0, ii 2, .ref 102]) dm_X12_noun_191 rfl rfl rfl rfl ?_
        refine me0 (pc' := 193) (S' := [ii 0, ii 0, ii 2, .ref 102]) dm_X12_noun_192 rfl rfl rfl rfl ?_
        refine me0 (pc' := 194) (S' := [ii 0, ii 0, ii 0, ii 2, .ref 102]) dm_X12_noun_193 rfl rfl rfl rfl ?_
        refine me1 (pc' := 195) (L' := [(2, ii (-1)), (1, ii ((tqP (T i) : Nat) : Int)), (0, .ref 102)]) (S' := [ii ((tqP (T i) : Nat) : Int), ii 0, ii 0, ii 0, ii 2, .ref 102]) dm_X12_noun_194 rfl rfl rfl rfl ?_
        obtain ⟨N, hN⟩ : ∃ N : Nat, s.1 50 = (N : Int) := ⟨(s.1 50).toNat, by omega⟩
        refine x_cv (pc' := 198) (rest := []) dm_X12_noun_195 rfl (q_inv (As := [ii 2, ii 0, ii 0, ii 0, ii ((tqP (T i) : Nat) : Int)]) (S := []) hm rfl rfl rfl) rfl rfl rfl (r_node_ (s := s) (N := N) hm (by omega) hN (by omega)) ?_
        rintro _ _ ⟨rfl, rfl⟩
        have ni := nod_i s N 2 0 0 0 ((tqP (T i) : Nat) : Int)
        have nr := rdR_nod hN 2 0 0 0 ((tqP (T i) : Nat) : Int)
        have n3 := ni.2 3 (by decide)
        have n4 := ni.2 4 (by decide)
        have n52 := ni.2 52 (by decide)
        have n51 := ni.2 51 (by decide)
        have n50 := ni.1
        have na := nod_at s N 2 0 0 0 ((tqP (T i) : Nat) : Int)
        refine me1 (pc' := 199) (L' := [(2, ii (N : Int)), (1, ii ((tqP (T i) : Nat) : Int)), (0, .ref 102)]) (S' := []) dm_X12_noun_198 rfl rfl rfl rfl ?_
        refine me1 (pc' := 200) (L' := [(2, ii (N : Int)), (1, ii ((tqP (T i) : Nat) : Int)), (0, .ref 102)]) (S' := [.ref 102]) dm_X12_noun_199 rfl rfl rfl rfl ?_
        refine me3 (pc' := 203) (S' := [.ref (102 + 24)]) dm_X12_noun_200 (q_getr hm rfl (fun m i l => rg_49 m i l)) rfl rfl rfl ?_
        refine me1 (pc' := 204) (L' := [(2, ii (N : Int)), (1, ii ((tqP (T i) : Nat) : Int)), (0, .ref 102)]) (S' := [ii (N : Int), .ref (102 + 24)]) dm_X12_noun_203 rfl rfl rfl rfl ?_
        refine me1 (pc' := 205) (L' := [(2, ii (N : Int)), (1, ii ((tqP (T i) : Nat) : Int)), (0, .ref 102)]) (S' := [.ref 102, ii (N : Int), .ref (102 + 24)]) dm_X12_noun_204 rfl rfl rfl rfl ?_
        refine me3 (pc' := 208) (S' := [.long (((nodS s N 2 0 0 0 ((tqP (T i) : Nat) : Int)).2.1) 41), ii (N : Int), .ref (102 + 24)]) dm_X12_noun_205 (q_getl (v := ((nodS s N 2 0 0 0 ((tqP (T i) : Nat) : Int)).2.1) 41) hm rfl (fun m i l => rg_41 m i l) rfl) rfl rfl rfl ?_
        refine me3 (pc' := 209) (S' := []) (h1 := rI pre post ((nodS s N 2 0 0 0 ((tqP (T i) : Nat) : Int)).1) ((nodS s N 2 0 0 0 ((tqP (T i) : Nat) : Int)).2.1) ((nodS s N 2 0 0 0 ((tqP (T i) : Nat) : Int)).2.2.1) (va_up ((nodS s N 2 0 0 0 ((tqP (T i) : Nat) : Int)).2.2.2) 49 (va_up (((nodS s N 2 0 0 0 ((tqP (T i) : Nat) : Int)).2.2.2) 49) N (((nodS s N 2 0 0 0 ((tqP (T i) : Nat) : Int)).2.1) 41)))) dm_X12_noun_208 (q_last (j := (N : Int)) (k := 49) (n := 84000) hm (fun m i l I J => rc_49 m i l I J) (fun m i l I J f => rs_49 m i l I J f) (by omega) (by omega) (by decide)) rfl rfl rfl ?_
        refine pg_cast (h2 := rI pre post ((keS (nodS s N 2 0 0 0 ((tqP (T i) : Nat) : Int)) N (Int64.ofInt (tqR (T i)))).1) ((keS (nodS s N 2 0 0 0 ((tqP (T i) : Nat) : Int)) N (Int64.ofInt (tqR (T i)))).2.1) ((keS (nodS s N 2 0 0 0 ((tqP (T i) : Nat) : Int)) N (Int64.ofInt (tqR (T i)))).2.2.1) ((keS (nodS s N 2 0 0 0 ((tqP (T i) : Nat) : Int)) N (Int64.ofInt (tqR (T i)))).2.2.2)) (by unfold keS; rw [← h41]; try rfl) ?_
        refine me1 (pc' := 210) (L' := [(2, ii (N : Int)), (1, ii ((tqP (T i) : Nat) : Int)), (0, .ref 102)]) (S' := [.ref 102]) dm_X12_noun_209 rfl rfl rfl rfl ?_
        refine x_cn (pc' := 213) (rest := []) dm_X12_noun_210 rfl (q_inv (As := []) (S := []) hm rfl rfl rfl) rfl rfl rfl (r_nxt (s := keS (nodS s N 2 0 0 0 ((tqP (T i) : Nat) : Int)) N (Int64.ofInt (tqR (T i)))) (i := i) hm (by omega) (RD_ke (RD_fr nr (tkE_nod s N 2 0 0 0 ((tqP (T i) : Nat) : Int)) hR)) (by omega)) ?_
        rintro _ ⟨u, rfl, hku, hRu⟩
        have hu := rdT_tk hku
        obtain ⟨-, u3, u4, u5, -⟩ := id hu
        have u3 : u.1 3 = (nodS s N 2 0 0 0 ((tqP (T i) : Nat) : Int)).1 3 := u3
        have u4 : u.1 4 = (nodS s N 2 0 0 0 ((tqP (T i) : Nat) : Int)).1 4 := u4
        have u5 : u.1 50 = (nodS s N 2 0 0 0 ((tqP (T i) : Nat) : Int)).1 50 := u5
        refine me2 (pc' := 285) (S' := []) dm_X12_noun_213 rfl rfl rfl ?_
        exact pg_sub (L := [(0, .ref 102), (2, ii (N : Int))]) rfl rfl rfl (r_nounT (d := d) hm hd hT hK hE hRM ho12 hhi (NJ_0 (B := N + 1) (pR3_2 (Or.inr hs3)) hRu ((hku.2.2.1 51 (by decide)).trans (n51.trans ho)) ((hku.2.2.1 52 (by decide)).trans (n52.trans h52)) (rdR_tr (rdR_ke nr (by omega)) hu.1) ⟨by omega, by omega, by omega⟩ (by omega) (by omega) (by omega) ((rR_nm hs3).mpr ⟨by omega, by rw [hku.1]; exact na.1, by rw [hku.2.1]; exact ke_at _ _ _, by rw [hku.1]; exact na.2.2.2.2.1⟩) ⟨by omega, by omega⟩ (by omega)))
    · have hs2 : tqS (T i) = 2 := by omega
      obtain ⟨b, hb⟩ : ∃ b : Nat, s.1 3 = (b : Int) := ⟨(s.1 3).toNat, by omega⟩
      obtain ⟨q, hq⟩ : ∃ q : Nat, s.1 4 = (q : Int) := ⟨(s.1 4).toNat, by omega⟩
      have hil := TOKS_lt hK (i := i) (by omega)
      obtain ⟨d1, d2, d3, -⟩ := hK.2.2.2.2.2.2.2.1 i hil hs2
      have hPi1 := P_ln hK (i + 1)
      obtain ⟨c, hc⟩ : ∃ c : Nat, tqD (T i) = (c : Int) := ⟨(tqD (T i)).toNat, by omega⟩
      have s40 : s.1 40 = (c : Int) := by rw [← hc, hT]; exact RD_40 hR (by rw [← hT]; omega)
      have htx : ∀ k, k < c → tqP (T i) + 1 + k < ln ∧ bf (tqP (T i) + 1 + k) = tqX (T i) k := fun k hk => by rw [hT]; exact hTX i (by rw [← hT]; exact hs2) k (by rw [← hT]; omega)
      refine me1 (pc' := 101) (L' := [(2, ii (-1)), (1, ii ((tqP (T i) : Nat) : Int)), (0, .ref 102)]) (S' := [.ref 102]) dm_X12_noun_100 rfl rfl rfl rfl ?_
      refine me3 (pc' := 104) (S' := [ii (s.1 40)]) dm_X12_noun_101 (q_geti (v := s.1 40) hm rfl (fun m i l => rg_40 m i l) rfl) rfl rfl rfl ?_
      refine pg_st0 (S' := [ii ((c : Nat) : Int)]) (congrArg (fun z => ii z :: []) (s40)) ?_
      refine me1 (pc' := 105) (L' := [(3, ii ((c : Nat) : Int)), (2, ii (-1)), (1, ii ((tqP (T i) : Nat) : Int)), (0, .ref 102)]) (S' := []) dm_X12_noun_104 rfl rfl rfl rfl ?_
      refine me1 (pc' := 106) (L' := [(3, ii ((c : Nat) : Int)), (2, ii (-1)), (1, ii ((tqP (T i) : Nat) : Int)), (0, .ref 102)]) (S' := [.ref 102]) dm_X12_noun_105 rfl rfl rfl rfl ?_
      refine me1 (pc' := 107) (L' := [(3, ii ((c : Nat) : Int)), (2, ii (-1)), (1, ii ((tqP (T i) : Nat) : Int)), (0, .ref 102)]) (S' := [ii ((c : Nat) : Int), .ref 102]) dm_X12_noun_106 rfl rfl rfl rfl ?_
      refine me0 (pc' := 108) (S' := [ii 1, ii ((c : Nat) : Int), .ref 102]) dm_X12_noun_107 rfl rfl rfl rfl ?_
      refine y_2ne (a := ((c : Nat) : Int)) (b := 1) (t := 115) (pc' := 111) dm_X12_noun_108 rfl rfl (by omega) (fun hb13 => ?_) (fun hb13 => ?_)
      · refine me0 (pc' := 116) (S' := [ii 3, .ref 102]) dm_X12_noun_115 rfl rfl rfl rfl ?_
        have hkd : ((if c = 1 then 1 else 3 : Nat) = 1 ∧ c = 1) ∨ ((if c = 1 then 1 else 3 : Nat) = 3 ∧ c ≠ 1) := by by_cases y : c = 1; (exact Or.inl ⟨if_pos y, y⟩); (exact Or.inr ⟨if_neg y, y⟩)
        refine pg_st0 (S' := [ii (((if c = 1 then 1 else 3 : Nat) : Nat) : Int), .ref 102]) (congrArg (fun z => ii z :: [.ref 102]) (by omega)) ?_
        refine me1 (pc' := 117) (L' := [(3, ii ((c : Nat) : Int)), (2, ii (-1)), (1, ii ((tqP (T i) : Nat) : Int)), (0, .ref 102)]) (S' := [ii ((c : Nat) : Int), ii (((if c = 1 then 1 else 3 : Nat) : Nat) : Int), .ref 102]) dm_X12_noun_116 rfl rfl rfl rfl ?_
        refine x_cv (pc' := 120) (rest := []) dm_X12_noun_117 rfl (q_inv (As := [ii (((if c = 1 then 1 else 3 : Nat) : Nat) : Int), ii ((c : Nat) : Int)]) (S := []) hm rfl rfl rfl) rfl rfl rfl (r_row_ (s := s) (q := q) (b := b) hm (by omega) hq hb (by omega) (by omega) (by omega)) ?_
        rintro _ _ ⟨rfl, rfl⟩
        refine me1 (pc' := 122) (L' := [(4, ii (q : Int)), (3, ii ((c : Nat) : Int)), (2, ii (-1)), (1, ii ((tqP (T i) : Nat) : Int)), (0, .ref 102)]) (S' := []) dm_X12_noun_120 rfl rfl rfl rfl ?_
        refine me0 (pc' := 123) (S' := [ii 0]) dm_X12_noun_122 rfl rfl rfl rfl ?_
        refine me1 (pc' := 125) (L' := [(5, ii 0), (4, ii (q : Int)), (3, ii ((c : Nat) : Int)), (2, ii (-1)), (1, ii ((tqP (T i) : Nat) : Int)), (0, .ref 102)]) (S' := []) dm_X12_noun_123 rfl rfl rfl rfl ?_
        have lp125 : ∀ (n125 : Nat) (k : Nat), c - k = n125 → (k ≤ c) → pgE xt (d - 1) 12 6 false (Option.some Jvm.ClassFile.FieldType.int) (mj_dec prog_14_method_85_code) 125 [(0, .ref 102), (1, ii ((tqP (T i) : Nat) : Int)), (2, ii (-1)), (3, ii ((c : Nat) : Int)), (4, ii (q : Int)), (5, ii ((k : Nat) : Int))] [] (rI pre post ((fillS (rowS s q b (((if c = 1 then 1 else 3 : Nat) : Nat) : Int) ((c : Nat) : Int)) b k (fun k => Int64.ofInt (tqX (T i) k))).1) ((fillS (rowS s q b (((if c = 1 then 1 else 3 : Nat) : Nat) : Int) ((c : Nat) : Int)) b k (fun k => Int64.ofInt (tqX (T i) k))).2.1) ((fillS (rowS s q b (((if c = 1 then 1 else 3 : Nat) : Nat) : Int) ((c : Nat) : Int)) b k (fun k => Int64.ofInt (tqX (T i) k))).2.2.1) ((fillS (rowS s q b (((if c = 1 then 1 else 3 : Nat) : Nat) : Int) ((c : Nat) : Int)) b k (fun k => Int64.ofInt (tqX (T i) k))).2.2.2)) (fun r h' => ∃ x, r = some x ∧ RQ pre post bf ln F T n m hi s (f + 3) 1 o i 0 x h') := by
          intro n125
          induction n125 using Nat.strongRecOn with
          | ind n125 ih125 =>
            intro k hm125 hk
            refine me1 (pc' := 127) (L' := [(0, .ref 102), (1, ii ((tqP (T i) : Nat) : Int)), (2, ii (-1)), (3, ii ((c : Nat) : Int)), (4, ii (q : Int)), (5, ii ((k : Nat) : Int))]) (S' := [ii ((k : Nat) : Int)]) dm_X12_noun_125 rfl rfl rfl rfl ?_
            refine me1 (pc' := 128) (L' := [(0, .ref 102), (1, ii ((tqP (T i) : Nat) : Int)), (2, ii (-1)), (3, ii ((c : Nat) : Int)), (4, ii (q : Int)), (5, ii ((k : Nat) : Int))]) (S' := [ii ((c : Nat) : Int), ii ((k : Nat) : Int)]) dm_X12_noun_127 rfl rfl rfl rfl ?_
            refine y_2ge (a := ((k : Nat) : Int)) (b := ((c : Nat) : Int)) (t := 163) (pc' := 131) dm_X12_noun_128 rfl rfl (by omega) (fun hb14 => ?_) (fun hb14 => ?_)
            · have hkc : k = c := by omega
              subst hkc
              have tfR : rdR s (fillS (rowS s q b (((if k = 1 then 1 else 3 : Nat) : Nat) : Int) ((k : Nat) : Int)) b k (fun k => Int64.ofInt (tqX (T i) k))) := rdR_fill (rdR_row (rdR_rf s) hq hb (by omega)) (by omega)
              have tfD : RD bf ln F n m hi (fillS (rowS s q b (((if k = 1 then 1 else 3 : Nat) : Nat) : Int) ((k : Nat) : Int)) b k (fun k => Int64.ofInt (tqX (T i) k))) i := RD_fill (RD_row hR hq hb (by omega))
              have ri := row_i s q b (((if k = 1 then 1 else 3 : Nat) : Nat) : Int) ((k : Nat) : Int)
              have rv9 : rv (fillS (rowS s q b (((if k = 1 then 1 else 3 : Nat) : Nat) : Int) ((k : Nat) : Int)) b k (fun k => Int64.ofInt (tqX (T i) k))) 1 q (txV T i) := by
                by_cases y : k = 1
                · have et : txV T i = v1 1 (Int64.ofInt (tqX (T i) 0)) := if_pos (by omega)
                  have ek : (if k = 1 then 1 else 3 : Nat) = 1 := if_pos y
                  rw [et, ek]
                  exact rv_rowS (s := s) (e := 0) (q := q) (b := b) (n := k) (kind := 1) (g := (fun k => Int64.ofInt (tqX (T i) k))) (w := v1 1 (Int64.ofInt (tqX (T i) 0))) (vw1_one (by decide)) (show (1 : Nat) ≠ 7 by decide) (show (1 : Nat) ≠ 6 by decide) rfl (show (1 : Nat) = k by omega) rfl (fun k hk => by rw [show k = 0 by omega]; rfl)
                · have et : txV T i = vrow 3 k (fun k => Int64.ofInt (tqX (T i) k)) := (if_neg (by omega)).trans (by rw [show (tqD (T i)).toNat = k by omega])
                  have ek : (if k = 1 then 1 else 3 : Nat) = 3 := if_neg y
                  rw [et, ek]
                  exact rv_rowS (s := s) (e := 0) (q := q) (b := b) (n := k) (kind := 3) (g := (fun k => Int64.ofInt (tqX (T i) k))) (w := vrow 3 k (fun k => Int64.ofInt (tqX (T i) k))) (vw1_row (by decide) (by decide) (by omega)) (show (3 : Nat) ≠ 7 by decide) (show (3 : Nat) ≠ 6 by decide) rfl rfl rfl (fun _ _ => rfl)
              refine me1 (pc' := 164) (L' := [(0, .ref 102), (1, ii ((tqP (T i) : Nat) : Int)), (2, ii (-1)), (3, ii ((k : Nat) : Int)), (4, ii (q : Int)), (5, ii ((k : Nat) : Int))]) (S' := [.ref 102]) dm_X12_noun_163 rfl rfl rfl rfl ?_
              refine me0 (pc' := 165) (S' := [ii 1, .ref 102]) dm_X12_noun_164 rfl rfl rfl rfl ?_
              refine me1 (pc' := 167) (L' := [(0, .ref 102), (1, ii ((tqP (T i) : Nat) : Int)), (2, ii (-1)), (3, ii ((k : Nat) : Int)), (4, ii (q : Int)), (5, ii ((k : Nat) : Int))]) (S' := [ii (q : Int), ii 1, .ref 102]) dm_X12_noun_165 rfl rfl rfl rfl ?_
              refine me0 (pc' := 168) (S' := [ii 0, ii (q : Int), ii 1, .ref 102]) dm_X12_noun_167 rfl rfl rfl rfl ?_
              refine me0 (pc' := 169) (S' := [ii 0, ii 0, ii (q : Int), ii 1, .ref 102]) dm_X12_noun_168 rfl rfl rfl rfl ?_
              refine me1 (pc' := 170) (L' := [(0, .ref 102), (1, ii ((tqP (T i) : Nat) : Int)), (2, ii (-1)), (3, ii ((k : Nat) : Int)), (4, ii (q : Int)), (5, ii ((k : Nat) : Int))]) (S' := [ii ((tqP (T i) : Nat) : Int), ii 0, ii 0, ii (q : Int), ii 1, .ref 102]) dm_X12_noun_169 rfl rfl rfl rfl ?_
              have f3 : (fillS (rowS s q b (((if k = 1 then 1 else 3 : Nat) : Nat) : Int) ((k : Nat) : Int)) b k (fun k => Int64.ofInt (tqX (T i) k))).1 3 = (b : Int) + ((k : Nat) : Int) := ri.1
              have f4 : (fillS (rowS s q b (((if k = 1 then 1 else 3 : Nat) : Nat) : Int) ((k : Nat) : Int)) b k (fun k => Int64.ofInt (tqX (T i) k))).1 4 = (q : Int) + 1 := ri.2.1
              have f50 : (fillS (rowS s q b (((if k = 1 then 1 else 3 : Nat) : Nat) : Int) ((k : Nat) : Int)) b k (fun k => Int64.ofInt (tqX (T i) k))).1 50 = s.1 50 := ri.2.2 50 (by decide) (by decide)
              have f51 : (fillS (rowS s q b (((if k = 1 then 1 else 3 : Nat) : Nat) : Int) ((k : Nat) : Int)) b k (fun k => Int64.ofInt (tqX (T i) k))).1 51 = s.1 51 := ri.2.2 51 (by decide) (by decide)
              have f52 : (fillS (rowS s q b (((if k = 1 then 1 else 3 : Nat) : Nat) : Int) ((k : Nat) : Int)) b k (fun k => Int64.ofInt (tqX (T i) k))).1 52 = s.1 52 := ri.2.2 52 (by decide) (by decide)
              obtain ⟨N, hN⟩ : ∃ N : Nat, (fillS (rowS s q b (((if k = 1 then 1 else 3 : Nat) : Nat) : Int) ((k : Nat) : Int)) b k (fun k => Int64.ofInt (tqX (T i) k))).1 50 = (N : Int) := ⟨((fillS (rowS s q b (((if k = 1 then 1 else 3 : Nat) : Nat) : Int) ((k : Nat) : Int)) b k (fun k => Int64.ofInt (tqX (T i) k))).1 50).toNat, by omega⟩
              refine x_cv (pc' := 173) (rest := []) dm_X12_noun_170 rfl (q_inv (As := [ii 1, ii (q : Int), ii 0, ii 0, ii ((tqP (T i) : Nat) : Int)]) (S := []) hm rfl rfl rfl) rfl rfl rfl (r_node_ (s := (fillS (rowS s q b (((if k = 1 then 1 else 3 : Nat) : Nat) : Int) ((k : Nat) : Int)) b k (fun k => Int64.ofInt (tqX (T i) k)))) (N := N) hm (by omega) hN (by omega)) ?_
              rintro _ _ ⟨rfl, rfl⟩
              have ni := nod_i (fillS (rowS s q b (((if k = 1 then 1 else 3 : Nat) : Nat) : Int) ((k : Nat) : Int)) b k (fun k => Int64.ofInt (tqX (T i) k))) N 1 (q : Int) 0 0 ((tqP (T i) : Nat) : Int)
              have nr := rdR_nod hN 1 (q : Int) 0 0 ((tqP (T i) : Nat) : Int)
              have n3 := ni.2 3 (by decide)
              have n4 := ni.2 4 (by decide)
              have n52 := ni.2 52 (by decide)
              have n51 := ni.2 51 (by decide)
              have n50 := ni.1
              have na := nod_at (fillS (rowS s q b (((if k = 1 then 1 else 3 : Nat) : Nat) : Int) ((k : Nat) : Int)) b k (fun k => Int64.ofInt (tqX (T i) k))) N 1 (q : Int) 0 0 ((tqP (T i) : Nat) : Int)
              refine me1 (pc' := 174) (L' := [(2, ii (N : Int)), (0, .ref 102), (1, ii ((tqP (T i) : Nat) : Int)), (3, ii ((k : Nat) : Int)), (4, ii (q : Int)), (5, ii ((k : Nat) : Int))]) (S' := []) dm_X12_noun_173 rfl rfl rfl rfl ?_
              refine me1 (pc' := 175) (L' := [(2, ii (N : Int)), (0, .ref 102), (1, ii ((tqP (T i) : Nat) : Int)), (3, ii ((k : Nat) : Int)), (4, ii (q : Int)), (5, ii ((k : Nat) : Int))]) (S' := [.ref 102]) dm_X12_noun_174 rfl rfl rfl rfl ?_
              refine x_cn (pc' := 178) (rest := []) dm_X12_noun_175 rfl (q_inv (As := []) (S := []) hm rfl rfl rfl) rfl rfl rfl (r_nxt (s := (nodS (fillS (rowS s q b (((if k = 1 then 1 else 3 : Nat) : Nat) : Int) ((k : Nat) : Int)) b k (fun k => Int64.ofInt (tqX (T i) k))) N 1 (q : Int) 0 0 ((tqP (T i) : Nat) : Int))) (i := i) hm (by omega) (RD_fr nr (tkE_nod (fillS (rowS s q b (((if k = 1 then 1 else 3 : Nat) : Nat) : Int) ((k : Nat) : Int)) b k (fun k => Int64.ofInt (tqX (T i) k))) N 1 (q : Int) 0 0 ((tqP (T i) : Nat) : Int)) tfD) (by omega)) ?_
              rintro _ ⟨u, rfl, hku, hRu⟩
              have hu := rdT_tk hku
              obtain ⟨-, u3, u4, u5, -⟩ := id hu
              refine me2 (pc' := 285) (S' := []) dm_X12_noun_178 rfl rfl rfl ?_
              exact pg_sub (L := [(0, .ref 102), (2, ii (N : Int))]) rfl rfl rfl (r_nounT (d := d) hm hd hT hK hE hRM ho12 hhi (NJ_0 (B := N + 1) (pR3_2 (Or.inl hs2)) hRu ((hku.2.2.1 51 (by decide)).trans (n51.trans (f51.trans ho))) ((hku.2.2.1 52 (by decide)).trans (n52.trans (f52.trans h52))) (rdR_tr tfR (rdR_tr nr hu.1)) ⟨by omega, by omega, by omega⟩ (by omega) (by omega) (by omega) ((rR_tx hs2).mpr ⟨by omega, by rw [hku.1]; exact na.1, q, by omega, by rw [hku.1]; exact na.2.1, rv_ext (rext_tr nr.1 hu.1.1) (by omega) rv9⟩) ⟨by omega, by omega⟩ (by omega)))
            · refine me1 (pc' := 132) (L' := [(0, .ref 102), (1, ii ((tqP (T i) : Nat) : Int)), (2, ii (-1)), (3, ii ((c : Nat) : Int)), (4, ii (q : Int)), (5, ii ((k : Nat) : Int))]) (S' := [.ref 102]) dm_X12_noun_131 rfl rfl rfl rfl ?_
              refine me3 (pc' := 135) (S' := [.ref (102 + 1)]) dm_X12_noun_132 (q_getr hm rfl (fun m i l => rg_0 m i l)) rfl rfl rfl ?_
              refine me1 (pc' := 136) (L' := [(0, .ref 102), (1, ii ((tqP (T i) : Nat) : Int)), (2, ii (-1)), (3, ii ((c : Nat) : Int)), (4, ii (q : Int)), (5, ii ((k : Nat) : Int))]) (S' := [.ref 102, .ref (102 + 1)]) dm_X12_noun_135 rfl rfl rfl rfl ?_
              refine me3 (pc' := 139) (S' := [.ref (102 + 2), .ref (102 + 1)]) dm_X12_noun_136 (q_getr hm rfl (fun m i l => rg_1 m i l)) rfl rfl rfl ?_
              refine me1 (pc' := 141) (L' := [(0, .ref 102), (1, ii ((tqP (T i) : Nat) : Int)), (2, ii (-1)), (3, ii ((c : Nat) : Int)), (4, ii (q : Int)), (5, ii ((k : Nat) : Int))]) (S' := [ii (q : Int), .ref (102 + 2), .ref (102 + 1)]) dm_X12_noun_139 rfl rfl rfl rfl ?_
              refine me3 (pc' := 142) (S' := [ii ((((fillS (rowS s q b (((if c = 1 then 1 else 3 : Nat) : Nat) : Int) ((c : Nat) : Int)) b k (fun k => Int64.ofInt (tqX (T i) k))).2.2.1) 1) q), .ref (102 + 1)]) dm_X12_noun_141 (q_iald (v := (((fillS (rowS s q b (((if c = 1 then 1 else 3 : Nat) : Nat) : Int) ((c : Nat) : Int)) b k (fun k => Int64.ofInt (tqX (T i) k))).2.2.1) 1) q) (k := 1) (n := 310000) hm (fun m i l I J => rc_1 m i l I J) (by omega) (by omega) (by decide) rfl) rfl rfl rfl ?_
              refine pg_st0 (S' := [ii (b : Int), .ref (102 + 1)]) (congrArg (fun z => ii z :: [.ref (102 + 1)]) (up_eq _ _ _)) ?_
              refine me1 (pc' := 144) (L' := [(0, .ref 102), (1, ii ((tqP (T i) : Nat) : Int)), (2, ii (-1)), (3, ii ((c : Nat) : Int)), (4, ii (q : Int)), (5, ii ((k : Nat) : Int))]) (S' := [ii ((k : Nat) : Int), ii (b : Int), .ref (102 + 1)]) dm_X12_noun_142 rfl rfl rfl rfl ?_
              refine y_iadd (a := (b : Int)) (b := ((k : Nat) : Int)) dm_X12_noun_144 (pc' := 145) rfl ?_
              refine me1 (pc' := 146) (L' := [(0, .ref 102), (1, ii ((tqP (T i) : Nat) : Int)), (2, ii (-1)), (3, ii ((c : Nat) : Int)), (4, ii (q : Int)), (5, ii ((k : Nat) : Int))]) (S' := [.ref 102, ii ((b : Int) + ((k : Nat) : Int)), .ref (102 + 1)]) dm_X12_noun_145 rfl rfl rfl rfl ?_
              refine me1 (pc' := 147) (L' := [(0, .ref 102), (1, ii ((tqP (T i) : Nat) : Int)), (2, ii (-1)), (3, ii ((c : Nat) : Int)), (4, ii (q : Int)), (5, ii ((k : Nat) : Int))]) (S' := [ii ((tqP (T i) : Nat) : Int), .ref 102, ii ((b : Int) + ((k : Nat) : Int)), .ref (102 + 1)]) dm_X12_noun_146 rfl rfl rfl rfl ?_
              refine me0 (pc' := 148) (S' := [ii 1, ii ((tqP (T i) : Nat) : Int), .ref 102, ii ((b : Int) + ((k : Nat) : Int)), .ref (102 + 1)]) dm_X12_noun_147 rfl rfl rfl rfl ?_
              refine y_iadd (a := ((tqP (T i) : Nat) : Int)) (b := 1) dm_X12_noun_148 (pc' := 149) rfl ?_
              refine me1 (pc' := 151) (L' := [(0, .ref 102), (1, ii ((tqP (T i) : Nat) : Int)), (2, ii (-1)), (3, ii ((c : Nat) : Int)), (4, ii (q : Int)), (5, ii ((k : Nat) : Int))]) (S' := [ii ((k : Nat) : Int), ii (((tqP (T i) : Nat) : Int) + 1), .ref 102, ii ((b : Int) + ((k : Nat) : Int)), .ref (102 + 1)]) dm_X12_noun_149 rfl rfl rfl rfl ?_
              refine y_iadd (a := ((tqP (T i) : Nat) : Int) + 1) (b := ((k : Nat) : Int)) dm_X12_noun_151 (pc' := 152) rfl ?_
              have hyP : tpR (fillS (rowS s q b (((if c = 1 then 1 else 3 : Nat) : Nat) : Int) ((c : Nat) : Int)) b k (fun k => Int64.ofInt (tqX (T i) k))) bf ln := (RD_fill (RD_row hR hq hb (by omega))).2.1
              have hyr := byR_r (fillS (rowS s q b (((if c = 1 then 1 else 3 : Nat) : Nat) : Int) ((c : Nat) : Int)) b k (fun k => Int64.ofInt (tqX (T i) k))) ((((tqP (T i) : Nat) : Int) + 1) + ((k : Nat) : Int))
              have hy : byR (fillS (rowS s q b (((if c = 1 then 1 else 3 : Nat) : Nat) : Int) ((c : Nat) : Int)) b k (fun k => Int64.ofInt (tqX (T i) k))) ((((tqP (T i) : Nat) : Int) + 1) + ((k : Nat) : Int)) = tqX (T i) k := by rw [show ((((tqP (T i) : Nat) : Int) + 1) + ((k : Nat) : Int) : Int) = ((tqP (T i) + 1 + k : Nat) : Int) by push_cast; omega]; rw [tpR_by hyP, byO_in (htx k (by omega)).1]; exact (htx k (by omega)).2
              refine x_cp (pc' := 155) (v := ii (byR (fillS (rowS s q b (((if c = 1 then 1 else 3 : Nat) : Nat) : Int) ((c : Nat) : Int)) b k (fun k => Int64.ofInt (tqX (T i) k))) ((((tqP (T i) : Nat) : Int) + 1) + ((k : Nat) : Int)))) (rest := [ii ((b : Int) + ((k : Nat) : Int)), .ref (102 + 1)]) dm_X12_noun_152 rfl (q_inv (As := [ii ((((tqP (T i) : Nat) : Int) + 1) + ((k : Nat) : Int))]) (S := [ii ((b : Int) + ((k : Nat) : Int)), .ref (102 + 1)]) hm rfl rfl rfl) rfl rfl rfl (r_byteAt_ (s := (fillS (rowS s q b (((if c = 1 then 1 else 3 : Nat) : Nat) : Int) ((c : Nat) : Int)) b k (fun k => Int64.ofInt (tqX (T i) k)))) (i := (((tqP (T i) : Nat) : Int) + 1) + ((k : Nat) : Int)) hm (by omega) (by omega) (by have := hyP.1; have := hyP.2.1; omega) hyP.2.2.1) ?_
              refine pg_st0 (S' := [ii (tqX (T i) k), ii ((b : Int) + ((k : Nat) : Int)), .ref (102 + 1)]) (congrArg (fun z => ii z :: [ii ((b : Int) + ((k : Nat) : Int)), .ref (102 + 1)]) (hy)) ?_
              refine y_i2l (a := tqX (T i) k) dm_X12_noun_155 (pc' := 156) rfl (by omega) (by omega) ?_
              refine me3 (pc' := 157) (S' := []) (h1 := rI pre post ((fillS (rowS s q b (((if c = 1 then 1 else 3 : Nat) : Nat) : Int) ((c : Nat) : Int)) b k (fun k => Int64.ofInt (tqX (T i) k))).1) ((fillS (rowS s q b (((if c = 1 then 1 else 3 : Nat) : Nat) : Int) ((c : Nat) : Int)) b k (fun k => Int64.ofInt (tqX (T i) k))).2.1) ((fillS (rowS s q b (((if c = 1 then 1 else 3 : Nat) : Nat) : Int) ((c : Nat) : Int)) b k (fun k => Int64.ofInt (tqX (T i) k))).2.2.1) (va_up ((fillS (rowS s q b (((if c = 1 then 1 else 3 : Nat) : Nat) : Int) ((c : Nat) : Int)) b k (fun k => Int64.ofInt (tqX (T i) k))).2.2.2) 0 (va_up (((fillS (rowS s q b (((if c = 1 then 1 else 3 : Nat) : Nat) : Int) ((c : Nat) : Int)) b k (fun k => Int64.ofInt (tqX (T i) k))).2.2.2) 0) (b + k) (Int64.ofInt (tqX (T i) k))))) dm_X12_noun_156 (q_last (j := (b : Int) + ((k : Nat) : Int)) (k := 0) (n := 820000) hm (fun m i l I J => rc_0 m i l I J) (fun m i l I J f => rs_0 m i l I J f) (by omega) (by omega) (by decide)) rfl rfl rfl ?_
              refine y_iinc (pc' := 160) (L' := [(5, ii (((k : Nat) : Int) + 1)), (0, .ref 102), (1, ii ((tqP (T i) : Nat) : Int)), (2, ii (-1)), (3, ii ((c : Nat) : Int)), (4, ii (q : Int))]) dm_X12_noun_157 (y_incp (a := ((k : Nat) : Int)) (c := 1) rfl rfl (by decide)) rfl ?_
              refine me2 (pc' := 125) (S' := []) dm_X12_noun_160 rfl rfl rfl ?_
              refine pg_cast (h2 := rI pre post ((fillS (rowS s q b (((if c = 1 then 1 else 3 : Nat) : Nat) : Int) ((c : Nat) : Int)) b (k + 1) (fun k => Int64.ofInt (tqX (T i) k))).1) ((fillS (rowS s q b (((if c = 1 then 1 else 3 : Nat) : Nat) : Int) ((c : Nat) : Int)) b (k + 1) (fun k => Int64.ofInt (tqX (T i) k))).2.1) ((fillS (rowS s q b (((if c = 1 then 1 else 3 : Nat) : Nat) : Int) ((c : Nat) : Int)) b (k + 1) (fun k => Int64.ofInt (tqX (T i) k))).2.2.1) ((fillS (rowS s q b (((if c = 1 then 1 else 3 : Nat) : Nat) : Int) ((c : Nat) : Int)) b (k + 1) (fun k => Int64.ofInt (tqX (T i) k))).2.2.2)) (fill_s (rowS s q b (((if c = 1 then 1 else 3 : Nat) : Nat) : Int) ((c : Nat) : Int)) b k (fun k => Int64.ofInt (tqX (T i) k))) ?_
              exact pg_sub (L := [(0, .ref 102), (1, ii ((tqP (T i) : Nat) : Int)), (2, ii (-1)), (3, ii ((c : Nat) : Int)), (4, ii (q : Int)), (5, ii (((k + 1) : Nat) : Int))]) rfl rfl rfl (ih125 (c - (k + 1)) (by omega) (k + 1) rfl (by omega))
        refine pg_cast (h2 := rI pre post ((fillS (rowS s q b (((if c = 1 then 1 else 3 : Nat) : Nat) : Int) ((c : Nat) : Int)) b 0 (fun k => Int64.ofInt (tqX (T i) k))).1) ((fillS (rowS s q b (((if c = 1 then 1 else 3 : Nat) : Nat) : Int) ((c : Nat) : Int)) b 0 (fun k => Int64.ofInt (tqX (T i) k))).2.1) ((fillS (rowS s q b (((if c = 1 then 1 else 3 : Nat) : Nat) : Int) ((c : Nat) : Int)) b 0 (fun k => Int64.ofInt (tqX (T i) k))).2.2.1) ((fillS (rowS s q b (((if c = 1 then 1 else 3 : Nat) : Nat) : Int) ((c : Nat) : Int)) b 0 (fun k => Int64.ofInt (tqX (T i) k))).2.2.2)) (fill_0 (rowS s q b (((if c = 1 then 1 else 3 : Nat) : Nat) : Int) ((c : Nat) : Int)) b (fun k => Int64.ofInt (tqX (T i) k))) ?_
        exact pg_sub (L := [(0, .ref 102), (1, ii ((tqP (T i) : Nat) : Int)), (2, ii (-1)), (3, ii ((c : Nat) : Int)), (4, ii (q : Int)), (5, ii ((0 : Nat) : Int))]) rfl rfl rfl (lp125 _ 0 rfl (Nat.zero_le _))
      · refine me0 (pc' := 112) (S' := [ii 1, .ref 102]) dm_X12_noun_111 rfl rfl rfl rfl ?_
        refine me2 (pc' := 116) (S' := [ii 1, .ref 102]) dm_X12_noun_112 rfl rfl rfl ?_
        have hkd : ((if c = 1 then 1 else 3 : Nat) = 1 ∧ c = 1) ∨ ((if c = 1 then 1 else 3 : Nat) = 3 ∧ c ≠ 1) := by by_cases y : c = 1; (exact Or.inl ⟨if_pos y, y⟩); (exact Or.inr ⟨if_neg y, y⟩)
        refine pg_st0 (S' := [ii (((if c = 1 then 1 else 3 : Nat) : Nat) : Int), .ref 102]) (congrArg (fun z => ii z :: [.ref 102]) (by omega)) ?_
        refine me1 (pc' := 117) (L' := [(3, ii ((c : Nat) : Int)), (2, ii (-1)), (1, ii ((tqP (T i) : Nat) : Int)), (0, .ref 102)]) (S' := [ii ((c : Nat) : Int), ii (((if c = 1 then 1 else 3 : Nat) : Nat) : Int), .ref 102]) dm_X12_noun_116 rfl rfl rfl rfl ?_
        refine x_cv (pc' := 120) (rest := []) dm_X12_noun_117 rfl (q_inv (As := [ii (((if c = 1 then 1 else 3 : Nat) : Nat) : Int), ii ((c : Nat) : Int)]) (S := []) hm rfl rfl rfl) rfl rfl rfl (r_row_ (s := s) (q := q) (b := b) hm (by omega) hq hb (by omega) (by omega) (by omega)) ?_
        rintro _ _ ⟨rfl, rfl⟩
        refine me1 (pc' := 122) (L' := [(4, ii (q : Int)), (3, ii ((c : Nat) : Int)), (2, ii (-1)), (1, ii ((tqP (T i) : Nat) : Int)), (0, .ref 102)]) (S' := []) dm_X12_noun_120 rfl rfl rfl rfl ?_
        refine me0 (pc' := 123) (S' := [ii 0]) dm_X12_noun_122 rfl rfl rfl rfl ?_
        refine me1 (pc' := 125) (L' := [(5, ii 0), (4, ii (q : Int)), (3, ii ((c : Nat) : Int)), (2, ii (-1)), (1, ii ((tqP (T i) : Nat) : Int)), (0, .ref 102)]) (S' := []) dm_X12_noun_123 rfl rfl rfl rfl ?_
        have lp125 : ∀ (n125 : Nat) (k : Nat), c - k = n125 → (k ≤ c) → pgE xt (d - 1) 12 6 false (Option.some Jvm.ClassFile.FieldType.int) (mj_dec prog_14_method_85_code) 125 [(0, .ref 102), (1, ii ((tqP (T i) : Nat) : Int)), (2, ii (-1)), (3, ii ((c : Nat) : Int)), (4, ii (q : Int)), (5, ii ((k : Nat) : Int))] [] (rI pre post ((fillS (rowS s q b (((if c = 1 then 1 else 3 : Nat) : Nat) : Int) ((c : Nat) : Int)) b k (fun k => Int64.ofInt (tqX (T i) k))).1) ((fillS (rowS s q b (((if c = 1 then 1 else 3 : Nat) : Nat) : Int) ((c : Nat) : Int)) b k (fun k => Int64.ofInt (tqX (T i) k))).2.1) ((fillS (rowS s q b (((if c = 1 then 1 else 3 : Nat) : Nat) : Int) ((c : Nat) : Int)) b k (fun k => Int64.ofInt (tqX (T i) k))).2.2.1) ((fillS (rowS s q b (((if c = 1 then 1 else 3 : Nat) : Nat) : Int) ((c : Nat) : Int)) b k (fun k => Int64.ofInt (tqX (T i) k))).2.2.2)) (fun r h' => ∃ x, r = some x ∧ RQ pre post bf ln F T n m hi s (f + 3) 1 o i 0 x h') := by
          intro n125
          induction n125 using Nat.strongRecOn with
          | ind n125 ih125 =>
            intro k hm125 hk
            refine me1 (pc' := 127) (L' := [(0, .ref 102), (1, ii ((tqP (T i) : Nat) : Int)), (2, ii (-1)), (3, ii ((c : Nat) : Int)), (4, ii (q : Int)), (5, ii ((k : Nat) : Int))]) (S' := [ii ((k : Nat) : Int)]) dm_X12_noun_125 rfl rfl rfl rfl ?_
            refine me1 (pc' := 128) (L' := [(0, .ref 102), (1, ii ((tqP (T i) : Nat) : Int)), (2, ii (-1)), (3, ii ((c : Nat) : Int)), (4, ii (q : Int)), (5, ii ((k : Nat) : Int))]) (S' := [ii ((c : Nat) : Int), ii ((k : Nat) : Int)]) dm_X12_noun_127 rfl rfl rfl rfl ?_
            refine y_2ge (a := ((k : Nat) : Int)) (b := ((c : Nat) : Int)) (t := 163) (pc' := 131) dm_X12_noun_128 rfl rfl (by omega) (fun hb15 => ?_) (fun hb15 => ?_)
            · have hkc : k = c := by omega
              subst hkc
              have tfR : rdR s (fillS (rowS s q b (((if k = 1 then 1 else 3 : Nat) : Nat) : Int) ((k : Nat) : Int)) b k (fun k => Int64.ofInt (tqX (T i) k))) := rdR_fill (rdR_row (rdR_rf s) hq hb (by omega)) (by omega)
              have tfD : RD bf ln F n m hi (fillS (rowS s q b (((if k = 1 then 1 else 3 : Nat) : Nat) : Int) ((k : Nat) : Int)) b k (fun k => Int64.ofInt (tqX (T i) k))) i := RD_fill (RD_row hR hq hb (by omega))
              have ri := row_i s q b (((if k = 1 then 1 else 3 : Nat) : Nat) : Int) ((k : Nat) : Int)
              have rv9 : rv (fillS (rowS s q b (((if k = 1 then 1 else 3 : Nat) : Nat) : Int) ((k : Nat) : Int)) b k (fun k => Int64.ofInt (tqX (T i) k))) 1 q (txV T i) := by
                by_cases y : k = 1
                · have et : txV T i = v1 1 (Int64.ofInt (tqX (T i) 0)) := if_pos (by omega)
                  have ek : (if k = 1 then 1 else 3 : Nat) = 1 := if_pos y
                  rw [et, ek]
                  exact rv_rowS (s := s) (e := 0) (q := q) (b := b) (n := k) (kind := 1) (g := (fun k => Int64.ofInt (tqX (T i) k))) (w := v1 1 (Int64.ofInt (tqX (T i) 0))) (vw1_one (by decide)) (show (1 : Nat) ≠ 7 by decide) (show (1 : Nat) ≠ 6 by decide) rfl (show (1 : Nat) = k by omega) rfl (fun k hk => by rw [show k = 0 by omega]; rfl)
                · have et : txV T i = vrow 3 k (fun k => Int64.ofInt (tqX (T i) k)) := (if_neg (by omega)).trans (by rw [show (tqD (T i)).toNat = k by omega])
                  have ek : (if k = 1 then 1 else 3 : Nat) = 3 := if_neg y
                  rw [et, ek]
                  exact rv_rowS (s := s) (e := 0) (q := q) (b := b) (n := k) (kind := 3) (g := (fun k => Int64.ofInt (tqX (T i) k))) (w := vrow 3 k (fun k => Int64.ofInt (tqX (T i) k))) (vw1_row (by decide) (by decide) (by omega)) (show (3 : Nat) ≠ 7 by decide) (show (3 : Nat) ≠ 6 by decide) rfl rfl rfl (fun _ _ => rfl)
              refine me1 (pc' := 164) (L' := [(0, .ref 102), (1, ii ((tqP (T i) : Nat) : Int)), (2, ii (-1)), (3, ii ((k : Nat) : Int)), (4, ii (q : Int)), (5, ii ((k : Nat) : Int))]) (S' := [.ref 102]) dm_X12_noun_163 rfl rfl rfl rfl ?_
              refine me0 (pc' := 165) (S' := [ii 1, .ref 102]) dm_X12_noun_164 rfl rfl rfl rfl ?_
              refine me1 (pc' := 167) (L' := [(0, .ref 102), (1, ii ((tqP (T i) : Nat) : Int)), (2, ii (-1)), (3, ii ((k : Nat) : Int)), (4, ii (q : Int)), (5, ii ((k : Nat) : Int))]) (S' := [ii (q : Int), ii 1, .ref 102]) dm_X12_noun_165 rfl rfl rfl rfl ?_
              refine me0 (pc' := 168) (S' := [ii 0, ii (q : Int), ii 1, .ref 102]) dm_X12_noun_167 rfl rfl rfl rfl ?_
              refine me0 (pc' := 169) (S' := [ii 0, ii 0, ii (q : Int), ii 1, .ref 102]) dm_X12_noun_168 rfl rfl rfl rfl ?_
              refine me1 (pc' := 170) (L' := [(0, .ref 102), (1, ii ((tqP (T i) : Nat) : Int)), (2, ii (-1)), (3, ii ((k : Nat) : Int)), (4, ii (q : Int)), (5, ii ((k : Nat) : Int))]) (S' := [ii ((tqP (T i) : Nat) : Int), ii 0, ii 0, ii (q : Int), ii 1, .ref 102]) dm_X12_noun_169 rfl rfl rfl rfl ?_
              have f3 : (fillS (rowS s q b (((if k = 1 then 1 else 3 : Nat) : Nat) : Int) ((k : Nat) : Int)) b k (fun k => Int64.ofInt (tqX (T i) k))).1 3 = (b : Int) + ((k : Nat) : Int) := ri.1
              have f4 : (fillS (rowS s q b (((if k = 1 then 1 else 3 : Nat) : Nat) : Int) ((k : Nat) : Int)) b k (fun k => Int64.ofInt (tqX (T i) k))).1 4 = (q : Int) + 1 := ri.2.1
              have f50 : (fillS (rowS s q b (((if k = 1 then 1 else 3 : Nat) : Nat) : Int) ((k : Nat) : Int)) b k (fun k => Int64.ofInt (tqX (T i) k))).1 50 = s.1 50 := ri.2.2 50 (by decide) (by decide)
              have f51 : (fillS (rowS s q b (((if k = 1 then 1 else 3 : Nat) : Nat) : Int) ((k : Nat) : Int)) b k (fun k => Int64.ofInt (tqX (T i) k))).1 51 = s.1 51 := ri.2.2 51 (by decide) (by decide)
              have f52 : (fillS (rowS s q b (((if k = 1 then 1 else 3 : Nat) : Nat) : Int) ((k : Nat) : Int)) b k (fun k => Int64.ofInt (tqX (T i) k))).1 52 = s.1 52 := ri.2.2 52 (by decide) (by decide)
              obtain ⟨N, hN⟩ : ∃ N : Nat, (fillS (rowS s q b (((if k = 1 then 1 else 3 : Nat) : Nat) : Int) ((k : Nat) : Int)) b k (fun k => Int64.ofInt (tqX (T i) k))).1 50 = (N : Int) := ⟨((fillS (rowS s q b (((if k = 1 then 1 else 3 : Nat) : Nat) : Int) ((k : Nat) : Int)) b k (fun k => Int64.ofInt (tqX (T i) k))).1 50).toNat, by omega⟩
              refine x_cv (pc' := 173) (rest := []) dm_X12_noun_170 rfl (q_inv (As := [ii 1, ii (q : Int), ii 0, ii 0, ii ((tqP (T i) : Nat) : Int)]) (S := []) hm rfl rfl rfl) rfl rfl rfl (r_node_ (s := (fillS (rowS s q b (((if k = 1 then 1 else 3 : Nat) : Nat) : Int) ((k : Nat) : Int)) b k (fun k => Int64.ofInt (tqX (T i) k)))) (N := N) hm (by omega) hN (by omega)) ?_
              rintro _ _ ⟨rfl, rfl⟩
              have ni := nod_i (fillS (rowS s q b (((if k = 1 then 1 else 3 : Nat) : Nat) : Int) ((k : Nat) : Int)) b k (fun k => Int64.ofInt (tqX (T i) k))) N 1 (q : Int) 0 0 ((tqP (T i) : Nat) : Int)
              have nr := rdR_nod hN 1 (q : Int) 0 0 ((tqP (T i) : Nat) : Int)
              have n3 := ni.2 3 (by decide)
              have n4 := ni.2 4 (by decide)
              have n52 := ni.2 52 (by decide)
              have n51 := ni.2 51 (by decide)
              have n50 := ni.1
              have na := nod_at (fillS (rowS s q b (((if k = 1 then 1 else 3 : Nat) : Nat) : Int) ((k : Nat) : Int)) b k (fun k => Int64.ofInt (tqX (T i) k))) N 1 (q : Int) 0 0 ((tqP (T i) : Nat) : Int)
              refine me1 (pc' := 174) (L' := [(2, ii (N : Int)), (0, .ref 102), (1, ii ((tqP (T i) : Nat) : Int)), (3, ii ((k : Nat) : Int)), (4, ii (q : Int)), (5, ii ((k : Nat) : Int))]) (S' := []) dm_X12_noun_173 rfl rfl rfl rfl ?_
              refine me1 (pc' := 175) (L' := [(2, ii (N : Int)), (0, .ref 102), (1, ii ((tqP (T i) : Nat) : Int)), (3, ii ((k : Nat) : Int)), (4, ii (q : Int)), (5, ii ((k : Nat) : Int))]) (S' := [.ref 102]) dm_X12_noun_174 rfl rfl rfl rfl ?_
              refine x_cn (pc' := 178) (rest := []) dm_X12_noun_175 rfl (q_inv (As := []) (S := []) hm rfl rfl rfl) rfl rfl rfl (r_nxt (s := (nodS (fillS (rowS s q b (((if k = 1 then 1 else 3 : Nat) : Nat) : Int) ((k : Nat) : Int)) b k (fun k => Int64.ofInt (tqX (T i) k))) N 1 (q : Int) 0 0 ((tqP (T i) : Nat) : Int))) (i := i) hm (by omega) (RD_fr nr (tkE_nod (fillS (rowS s q b (((if k = 1 then 1 else 3 : Nat) : Nat) : Int) ((k : Nat) : Int)) b k (fun k => Int64.ofInt (tqX (T i) k))) N 1 (q : Int) 0 0 ((tqP (T i) : Nat) : Int)) tfD) (by omega)) ?_
              rintro _ ⟨u, rfl, hku, hRu⟩
              have hu := rdT_tk hku
              obtain ⟨-, u3, u4, u5, -⟩ := id hu
              refine me2 (pc' := 285) (S' := []) dm_X12_noun_178 rfl rfl rfl ?_
              exact pg_sub (L := [(0, .ref 102), (2, ii (N : Int))]) rfl rfl rfl (r_nounT (d := d) hm hd hT hK hE hRM ho12 hhi (NJ_0 (B := N + 1) (pR3_2 (Or.inl hs2)) hRu ((hku.2.2.1 51 (by decide)).trans (n51.trans (f51.trans ho))) ((hku.2.2.1 52 (by decide)).trans (n52.trans (f52.trans h52))) (rdR_tr tfR (rdR_tr nr hu.1)) ⟨by omega, by omega, by omega⟩ (by omega) (by omega) (by omega) ((rR_tx hs2).mpr ⟨by omega, by rw [hku.1]; exact na.1, q, by omega, by rw [hku.1]; exact na.2.1, rv_ext (rext_tr nr.1 hu.1.1) (by omega) rv9⟩) ⟨by omega, by omega⟩ (by omega)))
            · refine me1 (pc' := 132) (L' := [(0, .ref 102), (1, ii ((tqP (T i) : Nat) : Int)), (2, ii (-1)), (3, ii ((c : Nat) : Int)), (4, ii (q : Int)), (5, ii ((k : Nat) : Int))]) (S' := [.ref 102]) dm_X12_noun_131 rfl rfl rfl rfl ?_
              refine me3 (pc' := 135) (S' := [.ref (102 + 1)]) dm_X12_noun_132 (q_getr hm rfl (fun m i l => rg_0 m i l)) rfl rfl rfl ?_
              refine me1 (pc' := 136) (L' := [(0, .ref 102), (1, ii ((tqP (T i) : Nat) : Int)), (2, ii (-1)), (3, ii ((c : Nat) : Int)), (4, ii (q : Int)), (5, ii ((k : Nat) : Int))]) (S' := [.ref 102, .ref (102 + 1)]) dm_X12_noun_135 rfl rfl rfl rfl ?_
              refine me3 (pc' := 139) (S' := [.ref (102 + 2), .ref (102 + 1)]) dm_X12_noun_136 (q_getr hm rfl (fun m i l => rg_1 m i l)) rfl rfl rfl ?_
              refine me1 (pc' := 141) (L' := [(0, .ref 102), (1, ii ((tqP (T i) : Nat) : Int)), (2, ii (-1)), (3, ii ((c : Nat) : Int)), (4, ii (q : Int)), (5, ii ((k : Nat) : Int))]) (S' := [ii (q : Int), .ref (102 + 2), .ref (102 + 1)]) dm_X12_noun_139 rfl rfl rfl rfl ?_
              refine me3 (pc' := 142) (S' := [ii ((((fillS (rowS s q b (((if c = 1 then 1 else 3 : Nat) : Nat) : Int) ((c : Nat) : Int)) b k (fun k => Int64.ofInt (tqX (T i) k))).2.2.1) 1) q), .ref (102 + 1)]) dm_X12_noun_141 (q_iald (v := (((fillS (rowS s q b (((if c = 1 then 1 else 3 : Nat) : Nat) : Int) ((c : Nat) : Int)) b k (fun k => Int64.ofInt (tqX (T i) k))).2.2.1) 1) q) (k := 1) (n := 310000) hm (fun m i l I J => rc_1 m i l I J) (by omega) (by omega) (by decide) rfl) rfl rfl rfl ?_
              refine pg_st0 (S' := [ii (b : Int), .ref (102 + 1)]) (congrArg (fun z => ii z :: [.ref (102 + 1)]) (up_eq _ _ _)) ?_
              refine me1 (pc' := 144) (L' := [(0, .ref 102), (1, ii ((tqP (T i) : Nat) : Int)), (2, ii (-1)), (3, ii ((c : Nat) : Int)), (4, ii (q : Int)), (5, ii ((k : Nat) : Int))]) (S' := [ii ((k : Nat) : Int), ii (b : Int), .ref (102 + 1)]) dm_X12_noun_142 rfl rfl rfl rfl ?_
              refine y_iadd (a := (b : Int)) (b := ((k : Nat) : Int)) dm_X12_noun_144 (pc' := 145) rfl ?_
              refine me1 (pc' := 146) (L' := [(0, .ref 102), (1, ii ((tqP (T i) : Nat) : Int)), (2, ii (-1)), (3, ii ((c : Nat) : Int)), (4, ii (q : Int)), (5, ii ((k : Nat) : Int))]) (S' := [.ref 102, ii ((b : Int) + ((k : Nat) : Int)), .ref (102 + 1)]) dm_X12_noun_145 rfl rfl rfl rfl ?_
              refine me1 (pc' := 147) (L' := [(0, .ref 102), (1, ii ((tqP (T i) : Nat) : Int)), (2, ii (-1)), (3, ii ((c : Nat) : Int)), (4, ii (q : Int)), (5, ii ((k : Nat) : Int))]) (S' := [ii ((tqP (T i) : Nat) : Int), .ref 102, ii ((b : Int) + ((k : Nat) : Int)), .ref (102 + 1)]) dm_X12_noun_146 rfl rfl rfl rfl ?_
              refine me0 (pc' := 148) (S' := [ii 1, ii ((tqP (T i) : Nat) : Int), .ref 102, ii ((b : Int) + ((k : Nat) : Int)), .ref (102 + 1)]) dm_X12_noun_147 rfl rfl rfl rfl ?_
              refine y_iadd (a := ((tqP (T i) : Nat) : Int)) (b := 1) dm_X12_noun_148 (pc' := 149) rfl ?_
              refine me1 (pc' := 151) (L' := [(0, .ref 102), (1, ii ((tqP (T i) : Nat) : Int)), (2, ii (-1)), (3, ii ((c : Nat) : Int)), (4, ii (q : Int)), (5, ii ((k : Nat) : Int))]) (S' := [ii ((k : Nat) : Int), ii (((tqP (T i) : Nat) : Int) + 1), .ref 102, ii ((b : Int) + ((k : Nat) : Int)), .ref (102 + 1)]) dm_X12_noun_149 rfl rfl rfl rfl ?_
              refine y_iadd (a := ((tqP (T i) : Nat) : Int) + 1) (b := ((k : Nat) : Int)) dm_X12_noun_151 (pc' := 152) rfl ?_
              have hyP : tpR (fillS (rowS s q b (((if c = 1 then 1 else 3 : Nat) : Nat) : Int) ((c : Nat) : Int)) b k (fun k => Int64.ofInt (tqX (T i) k))) bf ln := (RD_fill (RD_row hR hq hb (by omega))).2.1
              have hyr := byR_r (fillS (rowS s q b (((if c = 1 then 1 else 3 : Nat) : Nat) : Int) ((c : Nat) : Int)) b k (fun k => Int64.ofInt (tqX (T i) k))) ((((tqP (T i) : Nat) : Int) + 1) + ((k : Nat) : Int))
              have hy : byR (fillS (rowS s q b (((if c = 1 then 1 else 3 : Nat) : Nat) : Int) ((c : Nat) : Int)) b k (fun k => Int64.ofInt (tqX (T i) k))) ((((tqP (T i) : Nat) : Int) + 1) + ((k : Nat) : Int)) = tqX (T i) k := by rw [show ((((tqP (T i) : Nat) : Int) + 1) + ((k : Nat) : Int) : Int) = ((tqP (T i) + 1 + k : Nat) : Int) by push_cast; omega]; rw [tpR_by hyP, byO_in (htx k (by omega)).1]; exact (htx k (by omega)).2
              refine x_cp (pc' := 155) (v := ii (byR (fillS (rowS s q b (((if c = 1 then 1 else 3 : Nat) : Nat) : Int) ((c : Nat) : Int)) b k (fun k => Int64.ofInt (tqX (T i) k))) ((((tqP (T i) : Nat) : Int) + 1) + ((k : Nat) : Int)))) (rest := [ii ((b : Int) + ((k : Nat) : Int)), .ref (102 + 1)]) dm_X12_noun_152 rfl (q_inv (As := [ii ((((tqP (T i) : Nat) : Int) + 1) + ((k : Nat) : Int))]) (S := [ii ((b : Int) + ((k : Nat) : Int)), .ref (102 + 1)]) hm rfl rfl rfl) rfl rfl rfl (r_byteAt_ (s := (fillS (rowS s q b (((if c = 1 then 1 else 3 : Nat) : Nat) : Int) ((c : Nat) : Int)) b k (fun k => Int64.ofInt (tqX (T i) k)))) (i := (((tqP (T i) : Nat) : Int) + 1) + ((k : Nat) : Int)) hm (by omega) (by omega) (by have := hyP.1; have := hyP.2.1; omega) hyP.2.2.1) ?_
              refine pg_st0 (S' := [ii (tqX (T i) k), ii ((b : Int) + ((k : Nat) : Int)), .ref (102 + 1)]) (congrArg (fun z => ii z :: [ii ((b : Int) + ((k : Nat) : Int)), .ref (102 + 1)]) (hy)) ?_
              refine y_i2l (a := tqX (T i) k) dm_X12_noun_155 (pc' := 156) rfl (by omega) (by omega) ?_
              refine me3 (pc' := 157) (S' := []) (h1 := rI pre post ((fillS (rowS s q b (((if c = 1 then 1 else 3 : Nat) : Nat) : Int) ((c : Nat) : Int)) b k (fun k => Int64.ofInt (tqX (T i) k))).1) ((fillS (rowS s q b (((if c = 1 then 1 else 3 : Nat) : Nat) : Int) ((c : Nat) : Int)) b k (fun k => Int64.ofInt (tqX (T i) k))).2.1) ((fillS (rowS s q b (((if c = 1 then 1 else 3 : Nat) : Nat) : Int) ((c : Nat) : Int)) b k (fun k => Int64.ofInt (tqX (T i) k))).2.2.1) (va_up ((fillS (rowS s q b (((if c = 1 then 1 else 3 : Nat) : Nat) : Int) ((c : Nat) : Int)) b k (fun k => Int64.ofInt (tqX (T i) k))).2.2.2) 0 (va_up (((fillS (rowS s q b (((if c = 1 then 1 else 3 : Nat) : Nat) : Int) ((c : Nat) : Int)) b k (fun k => Int64.ofInt (tqX (T i) k))).2.2.2) 0) (b + k) (Int64.ofInt (tqX (T i) k))))) dm_X12_noun_156 (q_last (j := (b : Int) + ((k : Nat) : Int)) (k := 0) (n := 820000) hm (fun m i l I J => rc_0 m i l I J) (fun m i l I J f => rs_0 m i l I J f) (by omega) (by omega) (by decide)) rfl rfl rfl ?_
              refine y_iinc (pc' := 160) (L' := [(5, ii (((k : Nat) : Int) + 1)), (0, .ref 102), (1, ii ((tqP (T i) : Nat) : Int)), (2, ii (-1)), (3, ii ((c : Nat) : Int)), (4, ii (q : Int))]) dm_X12_noun_157 (y_incp (a := ((k : Nat) : Int)) (c := 1) rfl rfl (by decide)) rfl ?_
              refine me2 (pc' := 125) (S' := []) dm_X12_noun_160 rfl rfl rfl ?_
              refine pg_cast (h2 := rI pre post ((fillS (rowS s q b (((if c = 1 then 1 else 3 : Nat) : Nat) : Int) ((c : Nat) : Int)) b (k + 1) (fun k => Int64.ofInt (tqX (T i) k))).1) ((fillS (rowS s q b (((if c = 1 then 1 else 3 : Nat) : Nat) : Int) ((c : Nat) : Int)) b (k + 1) (fun k => Int64.ofInt (tqX (T i) k))).2.1) ((fillS (rowS s q b (((if c = 1 then 1 else 3 : Nat) : Nat) : Int) ((c : Nat) : Int)) b (k + 1) (fun k => Int64.ofInt (tqX (T i) k))).2.2.1) ((fillS (rowS s q b (((if c = 1 then 1 else 3 : Nat) : Nat) : Int) ((c : Nat) : Int)) b (k + 1) (fun k => Int64.ofInt (tqX (T i) k))).2.2.2)) (fill_s (rowS s q b (((if c = 1 then 1 else 3 : Nat) : Nat) : Int) ((c : Nat) : Int)) b k (fun k => Int64.ofInt (tqX (T i) k))) ?_
              exact pg_sub (L := [(0, .ref 102), (1, ii ((tqP (T i) : Nat) : Int)), (2, ii (-1)), (3, ii ((c : Nat) : Int)), (4, ii (q : Int)), (5, ii (((k + 1) : Nat) : Int))]) rfl rfl rfl (ih125 (c - (k + 1)) (by omega) (k + 1) rfl (by omega))
        refine pg_cast (h2 := rI pre post ((fillS (rowS s q b (((if c = 1 then 1 else 3 : Nat) : Nat) : Int) ((c : Nat) : Int)) b 0 (fun k => Int64.ofInt (tqX (T i) k))).1) ((fillS (rowS s q b (((if c = 1 then 1 else 3 : Nat) : Nat) : Int) ((c : Nat) : Int)) b 0 (fun k => Int64.ofInt (tqX (T i) k))).2.1) ((fillS (rowS s q b (((if c = 1 then 1 else 3 : Nat) : Nat) : Int) ((c : Nat) : Int)) b 0 (fun k => Int64.ofInt (tqX (T i) k))).2.2.1) ((fillS (rowS s q b (((if c = 1 then 1 else 3 : Nat) : Nat) : Int) ((c : Nat) : Int)) b 0 (fun k => Int64.ofInt (tqX (T i) k))).2.2.2)) (fill_0 (rowS s q b (((if c = 1 then 1 else 3 : Nat) : Nat) : Int) ((c : Nat) : Int)) b (fun k => Int64.ofInt (tqX (T i) k))) ?_
        exact pg_sub (L := [(0, .ref 102), (1, ii ((tqP (T i) : Nat) : Int)), (2, ii (-1)), (3, ii ((c : Nat) : Int)), (4, ii (q : Int)), (5, ii ((0 : Nat) : Int))]) rfl rfl rfl (lp125 _ 0 rfl (Nat.zero_le _))
  · have hs1 : tqS (T i) = 1 := by omega
    obtain ⟨b, hb⟩ : ∃ b : Nat, s.1 3 = (b : Int) := ⟨(s.1 3).toNat, by omega⟩
    obtain ⟨q, hq⟩ : ∃ q : Nat, s.1 4 = (q : Int) := ⟨(s.1 4).toNat, by omega⟩
    refine me1 (pc' := 16) (L' := [(2, ii (-1)), (1, ii ((tqP (T i) : Nat) : Int)), (0, .ref 102)]) (S' := [.ref 102]) dm_X12_noun_15 rfl rfl rfl rfl ?_
    refine me3 (pc' := 19) (S' := [ii (s.1 3)]) dm_X12_noun_16 (q_geti (v := s.1 3) hm rfl (fun m i l => rg_3 m i l) rfl) rfl rfl rfl ?_
    refine pg_st0 (S' := [ii (b : Int)]) (congrArg (fun z => ii z :: []) (hb)) ?_
    refine me1 (pc' := 20) (L' := [(3, ii (b : Int)), (2, ii (-1)), (1, ii ((tqP (T i) : Nat) : Int)), (0, .ref 102)]) (S' := []) dm_X12_noun_19 rfl rfl rfl rfl ?_
    refine me0 (pc' := 21) (S' := [ii 0]) dm_X12_noun_20 rfl rfl rfl rfl ?_
    refine me1 (pc' := 23) (L' := [(4, ii 0), (3, ii (b : Int)), (2, ii (-1)), (1, ii ((tqP (T i) : Nat) : Int)), (0, .ref 102)]) (S' := []) dm_X12_noun_21 rfl rfl rfl rfl ?_
    have lp23 : ∀ (n23 : Nat) (c : Nat) (z : RS), mk + 1 - (i + c) = n23 → (UJ bf ln F T mk n m hi i s b c z) → pgE xt (d - 1) 12 6 false (Option.some Jvm.ClassFile.FieldType.int) (mj_dec prog_14_method_85_code) 23 [(0, .ref 102), (1, ii ((tqP (T i) : Nat) : Int)), (2, ii (-1)), (3, ii (b : Int)), (4, ii ((c : Nat) : Int))] [] (rI pre post z.1 z.2.1 z.2.2.1 z.2.2.2) (fun r h' => ∃ x, r = some x ∧ RQ pre post bf ln F T n m hi s (f + 3) 1 o i 0 x h') := by
      intro n23
      induction n23 using Nat.strongRecOn with
      | ind n23 ih23 =>
        intro c z hm23 hU
        obtain ⟨u1, u2, ⟨u3, u4, u5, u6, u7⟩, u8, u9, u10⟩ := id hU
        have e38 : z.1 38 = ((tqS (T (i + c)) : Nat) : Int) := by rw [hT]; exact (RD_38 u1).1
        have e8 : tqS (T (i + c)) ≤ 8 := by rw [hT]; exact tkI_8
        have u10c := u10
        clear u10
        refine me1 (pc' := 24) (L' := [(0, .ref 102), (1, ii ((tqP (T i) : Nat) : Int)), (2, ii (-1)), (3, ii (b : Int)), (4, ii ((c : Nat) : Int))]) (S' := [.ref 102]) dm_X12_noun_23 rfl rfl rfl rfl ?_
        refine me3 (pc' := 27) (S' := [ii (z.1 38)]) dm_X12_noun_24 (q_geti (v := z.1 38) hm rfl (fun m i l => rg_38 m i l) rfl) rfl rfl rfl ?_
        refine me0 (pc' := 28) (S' := [ii 1, ii (z.1 38)]) dm_X12_noun_27 rfl rfl rfl rfl ?_
        refine y_2ne (a := z.1 38) (b := 1) (t := 54) (pc' := 31) dm_X12_noun_28 rfl rfl (by omega) (fun hb16 => ?_) (fun hb16 => ?_)
        · have hso : soN T 1 201 i = c := soN_eq 201 i c (by have := hK.1; omega) u9 (Or.inr (by omega))
          have hc1 : 1 ≤ c := by rcases Nat.eq_zero_or_pos c with y | y; (exfalso; have z9 : tqS (T (i + c)) = tqS (T i) := (by rw [y]; rfl); omega); exact y
          have hc100 := soN_100 hK u9
          have hPc := P_le hK (i := i) (j := i + c) (by omega) (by omega)
          have hPc1 := P_ln hK (i + c)
          have zq : z.1 4 = (q : Int) := u4.trans hq
          have zb : z.1 3 = (b : Int) := u3.trans hb
          refine me1 (pc' := 55) (L' := [(0, .ref 102), (1, ii ((tqP (T i) : Nat) : Int)), (2, ii (-1)), (3, ii (b : Int)), (4, ii ((c : Nat) : Int))]) (S' := [.ref 102]) dm_X12_noun_54 rfl rfl rfl rfl ?_
          refine me0 (pc' := 56) (S' := [ii 1, .ref 102]) dm_X12_noun_55 rfl rfl rfl rfl ?_
          refine me1 (pc' := 58) (L' := [(0, .ref 102), (1, ii ((tqP (T i) : Nat) : Int)), (2, ii (-1)), (3, ii (b : Int)), (4, ii ((c : Nat) : Int))]) (S' := [ii ((c : Nat) : Int), ii 1, .ref 102]) dm_X12_noun_56 rfl rfl rfl rfl ?_
          refine me0 (pc' := 59) (S' := [ii 1, ii ((c : Nat) : Int), ii 1, .ref 102]) dm_X12_noun_58 rfl rfl rfl rfl ?_
          refine y_2ne (a := ((c : Nat) : Int)) (b := 1) (t := 71) (pc' := 62) dm_X12_noun_59 rfl rfl (by omega) (fun hb17 => ?_) (fun hb17 => ?_)
          · refine me1 (pc' := 72) (L' := [(0, .ref 102), (1, ii ((tqP (T i) : Nat) : Int)), (2, ii (-1)), (3, ii (b : Int)), (4, ii ((c : Nat) : Int))]) (S' := [.ref 102, ii 1, .ref 102]) dm_X12_noun_71 rfl rfl rfl rfl ?_
            refine me1 (pc' := 73) (L' := [(0, .ref 102), (1, ii ((tqP (T i) : Nat) : Int)), (2, ii (-1)), (3, ii (b : Int)), (4, ii ((c : Nat) : Int))]) (S' := [.ref 102, .ref 102, ii 1, .ref 102]) dm_X12_noun_72 rfl rfl rfl rfl ?_
            refine me0 (pc' := 74) (S' := [ii 5, .ref 102, .ref 102, ii 1, .ref 102]) dm_X12_noun_73 rfl rfl rfl rfl ?_
            refine me1 (pc' := 76) (L' := [(0, .ref 102), (1, ii ((tqP (T i) : Nat) : Int)), (2, ii (-1)), (3, ii (b : Int)), (4, ii ((c : Nat) : Int))]) (S' := [ii ((c : Nat) : Int), ii 5, .ref 102, .ref 102, ii 1, .ref 102]) dm_X12_noun_74 rfl rfl rfl rfl ?_
            refine x_cv (pc' := 79) (rest := [.ref 102, ii 1, .ref 102]) dm_X12_noun_76 rfl (q_inv (As := [ii 5, ii ((c : Nat) : Int)]) (S := [.ref 102, ii 1, .ref 102]) hm rfl rfl rfl) rfl rfl rfl (r_row_ (s := z) (q := q) (b := b) hm (by omega) zq zb (by omega) (by omega) (by omega)) ?_
            rintro _ _ ⟨rfl, rfl⟩
            have hfl : rS pre post (rowS z q b 5 ((c : Nat) : Int)) = rS pre post (fillS (rowS z q b 5 ((c : Nat) : Int)) b c (fun k => Int64.ofInt (tqD (T (i + k))))) := (fill_id (rowS z q b 5 ((c : Nat) : Int)) b c).trans (congrArg (rS pre post) (fillS_cg (fun k hk => u10c k hk)))
            refine pg_cast (h2 := rI pre post ((fillS (rowS z q b 5 ((c : Nat) : Int)) b c (fun k => Int64.ofInt (tqD (T (i + k))))).1) ((fillS (rowS z q b 5 ((c : Nat) : Int)) b c (fun k => Int64.ofInt (tqD (T (i + k))))).2.1) ((fillS (rowS z q b 5 ((c : Nat) : Int)) b c (fun k => Int64.ofInt (tqD (T (i + k))))).2.2.1) ((fillS (rowS z q b 5 ((c : Nat) : Int)) b c (fun k => Int64.ofInt (tqD (T (i + k))))).2.2.2)) hfl ?_
            have hBT : rB (fillS (rowS z q b 5 ((c : Nat) : Int)) b c (fun k => Int64.ofInt (tqD (T (i + k))))) := ⟨by show 3 ≤ (q : Int) + 1; omega, by show (q : Int) + 1 ≤ 310000; omega, by show 0 ≤ (b : Int) + ((c : Nat) : Int); omega, by show (b : Int) + ((c : Nat) : Int) ≤ 820000; omega⟩
            have hvq : rv (fillS (rowS z q b 5 ((c : Nat) : Int)) b c (fun k => Int64.ofInt (tqD (T (i + k))))) 1 q (vrow 5 c (fun k => Int64.ofInt (tqD (T (i + k))))) := rv_rowS (kind := 5) (vw1_row (by decide) (by decide) (by omega)) (show (5 : Nat) ≠ 7 by decide) (show (5 : Nat) ≠ 6 by decide) rfl rfl rfl (fun _ _ => rfl)
            refine x_cv (pc' := 82) (rest := [ii 1, .ref 102]) dm_X12_noun_79 rfl (q_inv (As := [ii (q : Int)]) (S := [ii 1, .ref 102]) hm rfl rfl rfl) rfl rfl rfl (r_settled_ (s := (fillS (rowS z q b 5 ((c : Nat) : Int)) b c (fun k => Int64.ofInt (tqD (T (i + k)))))) (fr0 := b) hm (by omega) hBT hvq (up_eq _ _ _)) ?_
            rintro _ _ ⟨rfl, rfl⟩
            refine pg_cast (h2 := rI pre post ((fillS (rowS z q b ((vform c (fun k => Int64.ofInt (tqD (T (i + k)))) : Nat) : Int) ((c : Nat) : Int)) b c (fun k => Int64.ofInt (tqD (T (i + k))))).1) ((fillS (rowS z q b ((vform c (fun k => Int64.ofInt (tqD (T (i + k)))) : Nat) : Int) ((c : Nat) : Int)) b c (fun k => Int64.ofInt (tqD (T (i + k))))).2.1) ((fillS (rowS z q b ((vform c (fun k => Int64.ofInt (tqD (T (i + k)))) : Nat) : Int) ((c : Nat) : Int)) b c (fun k => Int64.ofInt (tqD (T (i + k))))).2.2.1) ((fillS (rowS z q b ((vform c (fun k => Int64.ofInt (tqD (T (i + k)))) : Nat) : Int) ((c : Nat) : Int)) b c (fun k => Int64.ofInt (tqD (T (i + k))))).2.2.2)) (congrArg (rS pre post) (setS_row _ _ _ _ _ _ _ _)) ?_
            have hcc : c ≠ 1 := by omega
            have hvf := vform_r c (fun k => Int64.ofInt (tqD (T (i + k))))
            have tfR : rdR s (fillS (rowS z q b ((vform c (fun k => Int64.ofInt (tqD (T (i + k)))) : Nat) : Int) ((c : Nat) : Int)) b c (fun k => Int64.ofInt (tqD (T (i + k))))) := rdR_fill (rdR_row u2 zq zb (by omega)) (by omega)
            have tfD : RD bf ln F n m hi (fillS (rowS z q b ((vform c (fun k => Int64.ofInt (tqD (T (i + k)))) : Nat) : Int) ((c : Nat) : Int)) b c (fun k => Int64.ofInt (tqD (T (i + k))))) (i + c) := RD_fill (RD_row u1 zq zb (by omega))
            have ri := row_i z q b ((vform c (fun k => Int64.ofInt (tqD (T (i + k)))) : Nat) : Int) ((c : Nat) : Int)
            have rv9 : rv (fillS (rowS z q b ((vform c (fun k => Int64.ofInt (tqD (T (i + k)))) : Nat) : Int) ((c : Nat) : Int)) b c (fun k => Int64.ofInt (tqD (T (i + k))))) 1 q (nuV T i c) := by
              unfold nuV
              rw [if_neg hcc]
              exact rv_rowS (vw1_row (by omega) (by omega) (by omega)) (by show ¬ vform c _ = 7; omega) (by show ¬ vform c _ = 6; omega) rfl rfl rfl (fun _ _ => rfl)
            refine me0 (pc' := 83) (S' := [ii 0, ii (q : Int), ii 1, .ref 102]) dm_X12_noun_82 rfl rfl rfl rfl ?_
            refine me0 (pc' := 84) (S' := [ii 0, ii 0, ii (q : Int), ii 1, .ref 102]) dm_X12_noun_83 rfl rfl rfl rfl ?_
            refine me1 (pc' := 85) (L' := [(0, .ref 102), (1, ii ((tqP (T i) : Nat) : Int)), (2, ii (-1)), (3, ii (b : Int)), (4, ii ((c : Nat) : Int))]) (S' := [ii ((tqP (T i) : Nat) : Int), ii 0, ii 0, ii (q : Int), ii 1, .ref 102]) dm_X12_noun_84 rfl rfl rfl rfl ?_
            have f3 : (fillS (rowS z q b ((vform c (fun k => Int64.ofInt (tqD (T (i + k)))) : Nat) : Int) ((c : Nat) : Int)) b c (fun k => Int64.ofInt (tqD (T (i + k))))).1 3 = (b : Int) + ((c : Nat) : Int) := ri.1
            have f4 : (fillS (rowS z q b ((vform c (fun k => Int64.ofInt (tqD (T (i + k)))) : Nat) : Int) ((c : Nat) : Int)) b c (fun k => Int64.ofInt (tqD (T (i + k))))).1 4 = (q : Int) + 1 := ri.2.1
            have f50 : (fillS (rowS z q b ((vform c (fun k => Int64.ofInt (tqD (T (i + k)))) : Nat) : Int) ((c : Nat) : Int)) b c (fun k => Int64.ofInt (tqD (T (i + k))))).1 50 = z.1 50 := ri.2.2 50 (by decide) (by decide)
            have f51 : (fillS (rowS z q b ((vform c (fun k => Int64.ofInt (tqD (T (i + k)))) : Nat) : Int) ((c : Nat) : Int)) b c (fun k => Int64.ofInt (tqD (T (i + k))))).1 51 = z.1 51 := ri.2.2 51 (by decide) (by decide)
            have f52 : (fillS (rowS z q b ((vform c (fun k => Int64.ofInt (tqD (T (i + k)))) : Nat) : Int) ((c : Nat) : Int)) b c (fun k => Int64.ofInt (tqD (T (i + k))))).1 52 = z.1 52 := ri.2.2 52 (by decide) (by decide)
            obtain ⟨N, hN⟩ : ∃ N : Nat, (fillS (rowS z q b ((vform c (fun k => Int64.ofInt (tqD (T (i + k)))) : Nat) : Int) ((c : Nat) : Int)) b c (fun k => Int64.ofInt (tqD (T (i + k))))).1 50 = (N : Int) := ⟨((fillS (rowS z q b ((vform c (fun k => Int64.ofInt (tqD (T (i + k)))) : Nat) : Int) ((c : Nat) : Int)) b c (fun k => Int64.ofInt (tqD (T (i + k))))).1 50).toNat, by omega⟩
            refine x_cv (pc' := 88) (rest := []) dm_X12_noun_85 rfl (q_inv (As := [ii 1, ii (q : Int), ii 0, ii 0, ii ((tqP (T i) : Nat) : Int)]) (S := []) hm rfl rfl rfl) rfl rfl rfl (r_node_ (s := (fillS (rowS z q b ((vform c (fun k => Int64.ofInt (tqD (T (i + k)))) : Nat) : Int) ((c : Nat) : Int)) b c (fun k => Int64.ofInt (tqD (T (i + k)))))) (N := N) hm (by omega) hN (by omega)) ?_
            rintro _ _ ⟨rfl, rfl⟩
            have ni := nod_i (fillS (rowS z q b ((vform c (fun k => Int64.ofInt (tqD (T (i + k)))) : Nat) : Int) ((c : Nat) : Int)) b c (fun k => Int64.ofInt (tqD (T (i + k))))) N 1 (q : Int) 0 0 ((tqP (T i) : Nat) : Int)
            have nr := rdR_nod hN 1 (q : Int) 0 0 ((tqP (T i) : Nat) : Int)
            have n3 := ni.2 3 (by decide)
            have n4 := ni.2 4 (by decide)
            have n52 := ni.2 52 (by decide)
            have n51 := ni.2 51 (by decide)
            have n50 := ni.1
            have na := nod_at (fillS (rowS z q b ((vform c (fun k => Int64.ofInt (tqD (T (i + k)))) : Nat) : Int) ((c : Nat) : Int)) b c (fun k => Int64.ofInt (tqD (T (i + k))))) N 1 (q : Int) 0 0 ((tqP (T i) : Nat) : Int)
            refine me1 (pc' := 89) (L' := [(2, ii (N : Int)), (0, .ref 102), (1, ii ((tqP (T i) : Nat) : Int)), (3, ii (b : Int)), (4, ii ((c : Nat) : Int))]) (S' := []) dm_X12_noun_88 rfl rfl rfl rfl ?_
            refine me2 (pc' := 285) (S' := []) dm_X12_noun_89 rfl rfl rfl ?_
            exact pg_sub (L := [(0, .ref 102), (2, ii (N : Int))]) rfl rfl rfl (r_nounT (d := d) hm hd hT hK hE hRM ho12 hhi (NJ_0 (B := N + 1) ((pR3_1 hs1).trans (by rw [hso])) (RD_fr nr (tkE_nod (fillS (rowS z q b ((vform c (fun k => Int64.ofInt (tqD (T (i + k)))) : Nat) : Int) ((c : Nat) : Int)) b c (fun k => Int64.ofInt (tqD (T (i + k))))) N 1 (q : Int) 0 0 ((tqP (T i) : Nat) : Int)) tfD) (n51.trans (f51.trans (u6.trans ho))) (n52.trans (f52.trans (u7.trans h52))) (rdR_tr tfR nr) ⟨by omega, by omega, by omega⟩ (by omega) (by omega) n50 ((rR_nu hs1).mpr ⟨by omega, na.1, q, by omega, na.2.1, by rw [hso]; exact rv_ext nr.1 (by omega) rv9⟩) ⟨by omega, by omega⟩ (by omega)))
          · refine me1 (pc' := 63) (L' := [(0, .ref 102), (1, ii ((tqP (T i) : Nat) : Int)), (2, ii (-1)), (3, ii (b : Int)), (4, ii ((c : Nat) : Int))]) (S' := [.ref 102, ii 1, .ref 102]) dm_X12_noun_62 rfl rfl rfl rfl ?_
            refine me0 (pc' := 64) (S' := [ii 0, .ref 102, ii 1, .ref 102]) dm_X12_noun_63 rfl rfl rfl rfl ?_
            refine me0 (pc' := 65) (S' := [ii 1, ii 0, .ref 102, ii 1, .ref 102]) dm_X12_noun_64 rfl rfl rfl rfl ?_
            refine x_cv (pc' := 68) (rest := [ii 1, .ref 102]) dm_X12_noun_65 rfl (q_inv (As := [ii 0, ii 1]) (S := [ii 1, .ref 102]) hm rfl rfl rfl) rfl rfl rfl (r_row_ (s := z) (q := q) (b := b) hm (by omega) zq zb (by omega) (by omega) (by omega)) ?_
            rintro _ _ ⟨rfl, rfl⟩
            have hcc : c = 1 := by omega
            have tfR : rdR s (rowS z q b 0 1) := rdR_row u2 zq zb (by decide)
            have tfD : RD bf ln F n m hi (rowS z q b 0 1) (i + c) := RD_row u1 zq zb (by decide)
            have ri := row_i z q b 0 1
            have rv9 : rv (rowS z q b 0 1) 1 q (nuV T i c) := by
              unfold nuV
              rw [if_pos hcc]
              refine rv_flat (fr := b) (vw1_one (by decide)) (show (0 : Nat) ≠ 7 by decide) ?_ ?_ ?_ ?_ (fun k hk => ?_)
              · rw [ri.2.1]; omega
              · show va_up (z.2.2.1 1) q _ q = _; rw [up_eq]
              · show va_up (z.2.2.1 2) q _ q = _; rw [up_eq]; rfl
              · rw [ri.1]; show (b : Int) + ((1 : Nat) : Int) ≤ _; omega
              · have hk : k < 1 := hk
                show z.2.2.2 0 (b + k) = Int64.ofInt (tqD (T i))
                rw [u10c k (by omega), show i + k = i by omega]
            refine me2 (pc' := 82) (S' := [ii (q : Int), ii 1, .ref 102]) dm_X12_noun_68 rfl rfl rfl ?_
            refine me0 (pc' := 83) (S' := [ii 0, ii (q : Int), ii 1, .ref 102]) dm_X12_noun_82 rfl rfl rfl rfl ?_
            refine me0 (pc' := 84) (S' := [ii 0, ii 0, ii (q : Int), ii 1, .ref 102]) dm_X12_noun_83 rfl rfl rfl rfl ?_
            refine me1 (pc' := 85) (L' := [(0, .ref 102), (1, ii ((tqP (T i) : Nat) : Int)), (2, ii (-1)), (3, ii (b : Int)), (4, ii ((c : Nat) : Int))]) (S' := [ii ((tqP (T i) : Nat) : Int), ii 0, ii 0, ii (q : Int), ii 1, .ref 102]) dm_X12_noun_84 rfl rfl rfl rfl ?_
            have f3 : (rowS z q b 0 1).1 3 = (b : Int) + 1 := ri.1
            have f4 : (rowS z q b 0 1).1 4 = (q : Int) + 1 := ri.2.1
            have f50 : (rowS z q b 0 1).1 50 = z.1 50 := ri.2.2 50 (by decide) (by decide)
            have f51 : (rowS z q b 0 1).1 51 = z.1 51 := ri.2.2 51 (by decide) (by decide)
            have f52 : (rowS z q b 0 1).1 52 = z.1 52 := ri.2.2 52 (by decide) (by decide)
            obtain ⟨N, hN⟩ : ∃ N : Nat, (rowS z q b 0 1).1 50 = (N : Int) := ⟨((rowS z q b 0 1).1 50).toNat, by omega⟩
            refine x_cv (pc' := 88) (rest := []) dm_X12_noun_85 rfl (q_inv (As := [ii 1, ii (q : Int), ii 0, ii 0, ii ((tqP (T i) : Nat) : Int)]) (S := []) hm rfl rfl rfl) rfl rfl rfl (r_node_ (s := (rowS z q b 0 1)) (N := N) hm (by omega) hN (by omega)) ?_
            rintro _ _ ⟨rfl, rfl⟩
            have ni := nod_i (rowS z q b 0 1) N 1 (q : Int) 0 0 ((tqP (T i) : Nat) : Int)
            have nr := rdR_nod hN 1 (q : Int) 0 0 ((tqP (T i) : Nat) : Int)
            have n3 := ni.2 3 (by decide)
            have n4 := ni.2 4 (by decide)
            have n52 := ni.2 52 (by decide)
            have n51 := ni.2 51 (by decide)
            have n50 := ni.1
            have na := nod_at (rowS z q b 0 1) N 1 (q : Int) 0 0 ((tqP (T i) : Nat) : Int)
            refine me1 (pc' := 89) (L' := [(2, ii (N : Int)), (0, .ref 102), (1, ii ((tqP (T i) : Nat) : Int)), (3, ii (b : Int)), (4, ii ((c : Nat) : Int))]) (S' := []) dm_X12_noun_88 rfl rfl rfl rfl ?_
            refine me2 (pc' := 285) (S' := []) dm_X12_noun_89 rfl rfl rfl ?_
            exact pg_sub (L := [(0, .ref 102), (2, ii (N : Int))]) rfl rfl rfl (r_nounT (d := d) hm hd hT hK hE hRM ho12 hhi (NJ_0 (B := N + 1) ((pR3_1 hs1).trans (by rw [hso])) (RD_fr nr (tkE_nod (rowS z q b 0 1) N 1 (q : Int) 0 0 ((tqP (T i) : Nat) : Int)) tfD) (n51.trans (f51.trans (u6.trans ho))) (n52.trans (f52.trans (u7.trans h52))) (rdR_tr tfR nr) ⟨by omega, by omega, by omega⟩ (by omega) (by omega) n50 ((rR_nu hs1).mpr ⟨by omega, na.1, q, by omega, na.2.1, by rw [hso]; exact rv_ext nr.1 (by omega) rv9⟩) ⟨by omega, by omega⟩ (by omega)))
        · have h1c : tqS (T (i + c)) = 1 := by omega
          have hlc := TOKS_lt hK (i := i + c) (by omega)
          have d41 : z.2.1 41 = Int64.ofInt (tqD (T (i + c))) := by rw [hT]; exact RD_d1 u1 (by rw [← hT]; exact h1c)
          have hPc := P_le hK (i := i) (j := i + c) (by omega) (by omega)
          have hPc1 := P_ln hK (i + c)
          refine me1 (pc' := 32) (L' := [(0, .ref 102), (1, ii ((tqP (T i) : Nat) : Int)), (2, ii (-1)), (3, ii (b : Int)), (4, ii ((c : Nat) : Int))]) (S' := [.ref 102]) dm_X12_noun_31 rfl rfl rfl rfl ?_
          refine me3 (pc' := 35) (S' := [.ref (102 + 1)]) dm_X12_noun_32 (q_getr hm rfl (fun m i l => rg_0 m i l)) rfl rfl rfl ?_
          refine me1 (pc' := 36) (L' := [(0, .ref 102), (1, ii ((tqP (T i) : Nat) : Int)), (2, ii (-1)), (3, ii (b : Int)), (4, ii ((c : Nat) : Int))]) (S' := [ii (b : Int), .ref (102 + 1)]) dm_X12_noun_35 rfl rfl rfl rfl ?_
          refine me1 (pc' := 38) (L' := [(0, .ref 102), (1, ii ((tqP (T i) : Nat) : Int)), (2, ii (-1)), (3, ii (b : Int)), (4, ii ((c : Nat) : Int))]) (S' := [ii ((c : Nat) : Int), ii (b : Int), .ref (102 + 1)]) dm_X12_noun_36 rfl rfl rfl rfl ?_
          refine y_iadd (a := (b : Int)) (b := ((c : Nat) : Int)) dm_X12_noun_38 (pc' := 39) rfl ?_
          refine me1 (pc' := 40) (L' := [(0, .ref 102), (1, ii ((tqP (T i) : Nat) : Int)), (2, ii (-1)), (3, ii (b : Int)), (4, ii ((c : Nat) : Int))]) (S' := [.ref 102, ii ((b : Int) + ((c : Nat) : Int)), .ref (102 + 1)]) dm_X12_noun_39 rfl rfl rfl rfl ?_
          refine me3 (pc' := 43) (S' := [.long (z.2.1 41), ii ((b : Int) + ((c : Nat) : Int)), .ref (102 + 1)]) dm_X12_noun_40 (q_getl (v := z.2.1 41) hm rfl (fun m i l => rg_41 m i l) rfl) rfl rfl rfl ?_
          refine me3 (pc' := 44) (S' := []) (h1 := rI pre post z.1 z.2.1 z.2.2.1 (va_up z.2.2.2 0 (va_up (z.2.2.2 0) (b + c) (z.2.1 41)))) dm_X12_noun_43 (q_last (j := (b : Int) + ((c : Nat) : Int)) (k := 0) (n := 820000) hm (fun m i l I J => rc_0 m i l I J) (fun m i l I J f => rs_0 m i l I J f) (by omega) (by omega) (by decide)) rfl rfl rfl ?_
          refine pg_cast (h2 := rI pre post ((ceS z (b + c) (Int64.ofInt (tqD (T (i + c))))).1) ((ceS z (b + c) (Int64.ofInt (tqD (T (i + c))))).2.1) ((ceS z (b + c) (Int64.ofInt (tqD (T (i + c))))).2.2.1) ((ceS z (b + c) (Int64.ofInt (tqD (T (i + c))))).2.2.2)) (by unfold ceS; rw [← d41]; try rfl) ?_
          refine y_iinc (pc' := 47) (L' := [(4, ii (((c : Nat) : Int) + 1)), (0, .ref 102), (1, ii ((tqP (T i) : Nat) : Int)), (2, ii (-1)), (3, ii (b : Int))]) dm_X12_noun_44 (y_incp (a := ((c : Nat) : Int)) (c := 1) rfl rfl (by decide)) rfl ?_
          refine me1 (pc' := 48) (L' := [(4, ii (((c : Nat) : Int) + 1)), (0, .ref 102), (1, ii ((tqP (T i) : Nat) : Int)), (2, ii (-1)), (3, ii (b : Int))]) (S' := [.ref 102]) dm_X12_noun_47 rfl rfl rfl rfl ?_
          refine x_cn (pc' := 51) (rest := []) dm_X12_noun_48 rfl (q_inv (As := []) (S := []) hm rfl rfl rfl) rfl rfl rfl (r_nxt (s := ceS z (b + c) (Int64.ofInt (tqD (T (i + c))))) (i := i + c) hm (by omega) (RD_I (t := z) (I := z.2.2.1) (J := va_up z.2.2.2 0 (va_up (z.2.2.2 0) (b + c) (Int64.ofInt (tqD (T (i + c)))))) u1 rfl (up_ne _ _ (by decide))) (by omega)) ?_
          rintro _ ⟨u, rfl, hku, hRu⟩
          refine me2 (pc' := 23) (S' := []) dm_X12_noun_51 rfl rfl rfl ?_
          exact pg_sub (L := [(0, .ref 102), (1, ii ((tqP (T i) : Nat) : Int)), (2, ii (-1)), (3, ii (b : Int)), (4, ii (((c + 1) : Nat) : Int))]) rfl rfl rfl (ih23 (mk + 1 - (i + (c + 1))) (by omega) (c + 1) u rfl (UJ_s hb hU h1c hku hRu hlc))
    exact pg_sub (L := [(0, .ref 102), (1, ii ((tqP (T i) : Nat) : Int)), (2, ii (-1)), (3, ii (b : Int)), (4, ii ((0 : Nat) : Int))]) rfl rfl rfl (lp23 _ 0 s rfl (UJ_0 hR hi1))
