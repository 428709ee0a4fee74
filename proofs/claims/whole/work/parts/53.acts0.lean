/-! values alike as far as they go -/
def veq : Nat → VV → VV → Prop
  | 0, _, _ => True
  | d + 1, v, w => vk v = vk w ∧ vm v = vm w ∧ vc v = vc w ∧ (∀ k, k < vq v → vn v k = vn w k) ∧ (vk v = 7 → ∀ k, k < vm v → veq d (vd v k) (vd w k))
theorem veq_rf (d : Nat) : ∀ v, veq d v v := by
  induction d with
  | zero => intro v; trivial
  | succ d ih => intro v; exact ⟨rfl, rfl, rfl, fun _ _ => rfl, fun _ k _ => ih _⟩
theorem veq_q {d : Nat} {v w : VV} (h : veq (d + 1) v w) : vq w = vq v := by
  obtain ⟨h1, h2, h3, -⟩ := h
  unfold vq
  rw [h1, h2, h3]
theorem veq_sz {d : Nat} : ∀ {v w : VV}, veq d v w → vsz d v = vsz d w := by
  induction d with
  | zero => intro v w _; rfl
  | succ d ih =>
    intro v w h
    obtain ⟨h1, h2, h3, h4, h5⟩ := h
    show (if vk v ≤ 1 then 1 else if vk v = 6 then 1 + vm v * vc v else if vk v = 7 then 1 + sumN (vm v) (fun k => vsz d (vd v k)) else 1 + vm v) = (if vk w ≤ 1 then 1 else if vk w = 6 then 1 + vm w * vc w else if vk w = 7 then 1 + sumN (vm w) (fun k => vsz d (vd w k)) else 1 + vm w)
    rw [← h1, ← h2, ← h3]
    by_cases h7 : vk v = 7
    · rw [sumN_congr (fun k hk => ih (h5 h7 k hk))]
    · simp only [if_neg h7]
theorem veq_lv {d : Nat} : ∀ {v w : VV}, veq d v w → vlv d v = vlv d w := by
  induction d with
  | zero => intro v w _; rfl
  | succ d ih =>
    intro v w h
    obtain ⟨h1, h2, h3, h4, h5⟩ := h
    show (if vk v ≤ 1 then 0 else if vk v = 6 then 2 else if vk v = 7 then 1 + maxN (vm v) (fun k => vlv d (vd v k)) else 1) = (if vk w ≤ 1 then 0 else if vk w = 6 then 2 else if vk w = 7 then 1 + maxN (vm w) (fun k => vlv d (vd w k)) else 1)
    rw [← h1, ← h2]
    by_cases h7 : vk v = 7
    · rw [maxN_congr (fun k hk => ih (h5 h7 k hk))]
    · simp only [if_neg h7]
theorem veq_w1 {d : Nat} {v w : VV} (h : veq (d + 1) v w) (hw : vw1 v) : vw1 w := by
  obtain ⟨h1, h2, h3, h4, -⟩ := h
  obtain ⟨a0, a1, a2, a3, a4, a5⟩ := hw
  refine ⟨by omega, fun z => ?_, fun z y => ?_, fun z => ?_, fun z => ?_, fun z k hk => ?_⟩
  · have := a1 (by omega); omega
  · have := a2 (by omega) (by omega); omega
  · obtain ⟨b1, b2, b3, b4, b5⟩ := a3 (by omega)
    refine ⟨by omega, by omega, by omega, by omega, fun k hk => ?_⟩
    have hq : vq v = vm v * vc v := by unfold vq; rw [if_pos (by omega)]
    rw [← h2, ← h3] at hk
    rw [← h4 k (by omega)]
    exact b5 k hk
  · have := a4 (by omega); omega
  · have hq : vq v = vm v := by unfold vq; rw [if_neg (by omega), if_neg (by omega)]
    rw [← h4 k (by omega)]
    exact a5 (by omega) k (by omega)
theorem veq_num {d : Nat} {v w : VV} (h : veq (d + 1) v w) (hw : vw1 v) : cnum w = cnum v := by
  unfold cnum
  rw [← h.1]
  by_cases a : vk v ≤ 1
  · rw [if_pos a, if_pos a, h.2.2.2.1 0 (by rw [vq_1 hw a]; omega)]
  · rw [if_neg a, if_neg a]
theorem cv_congr {A : Nat → Prop} {h : mj_H} {d : Nat} : ∀ {p : Nat} {v w : VV}, cv A h d p v → veq d v w → cv A h d p w := by
  induction d with
  | zero => intro p v w hv _; exact hv
  | succ d ih =>
    intro p v w hv he
    have e1 := veq_sz he
    have e2 := veq_lv he
    have e3 := veq_num he hv.1
    have e4 := veq_w1 he hv.1
    have e5 := veq_q he
    obtain ⟨hw, hp2, hsz, hlv, row, fr, vals, hp, hfr, g1, g3, g7⟩ := hv
    obtain ⟨h1, h2, h3, h4, h5⟩ := he
    refine ⟨e4, hp2, by omega, by omega, row, fr, vals, ?_, hfr, fun z => g1 (by omega), fun z y => ?_, fun z => ?_⟩
    · rw [← e1, ← e2, e3, ← h1, ← h2, ← h3]; exact hp
    · obtain ⟨hn, n, f, hr, hb, hf⟩ := g3 (by omega) (by omega)
      exact ⟨hn, n, f, hr, by rw [e5]; exact hb, fun k hk => by rw [e5] at hk; rw [← h4 k hk]; exact hf k hk⟩
    · obtain ⟨hr, h8⟩ := g7 (by omega)
      refine ⟨hr, ?_⟩
      rw [← h2]
      rcases h8 with h9 | ⟨b, n, g, c1, c2, c3, c4, c5, c6, c7⟩
      · exact Or.inl h9
      · refine Or.inr ⟨b, n, g, c1, c2, c3, c4, c5, c6, fun k hk => ?_⟩
        obtain ⟨q, q1, q2⟩ := c7 k hk
        exact ⟨q, q1, ih q2 (h5 (by omega) k hk)⟩
/-- answers alike -/
def oeq (d : Nat) (o o' : Nat ⊕ VV) : Prop := match o, o' with
  | .inl n, .inl m => n = m
  | .inr v, .inr w => veq d v w
  | _, _ => False
theorem ares_congr {A : Nat → Prop} {h h' : mj_H} {e a b : Nat} {o o' : Nat ⊕ VV} {r : Value} (hr : ares A h e o a b r h') (he : oeq e o o') : ares A h e o' a b r h' := by
  cases o with
  | inl n =>
    cases o' with
    | inl m => cases (show n = m from he); exact hr
    | inr w => exact he.elim
  | inr v =>
    cases o' with
    | inl m => exact he.elim
    | inr w =>
      obtain ⟨q, X, h1, h2, h3, h4, h5⟩ := hr
      exact ⟨q, X, h1, h2, h3, h4, cv_congr h5 he⟩
theorem vpick_congr {e : Nat} {v : VV} {o o' : Nat → Nat} {n : Nat} (hc : vk v = 6 → 1 ≤ vc v) (h : ∀ k, k < n → o k = o' k) : veq e (vpick v o n) (vpick v o' n) := by
  cases e with
  | zero => trivial
  | succ e =>
    by_cases a : vk v = 7
    · rw [vpick_7 a, vpick_7 a]
      exact ⟨rfl, rfl, rfl, fun _ _ => rfl, fun _ k hk => by rw [show vd (vnest n fun k => vd v (o k)) k = vd v (o k) from rfl, show vd (vnest n fun k => vd v (o' k)) k = vd v (o' k) from rfl, h k hk]; exact veq_rf _ _⟩
    · by_cases b : vk v = 6
      · rw [vpick_6 b, vpick_6 b]
        refine ⟨rfl, rfl, rfl, fun k hk => ?_, fun z => absurd z (by show ¬ 6 = 7; omega)⟩
        have hk2 : k < n * vc v := hk
        show vn v (o (k / vc v) * vc v + k % vc v) = vn v (o' (k / vc v) * vc v + k % vc v)
        rw [h (k / vc v) ((Nat.div_lt_iff_lt_mul (hc b)).mpr hk2)]
      · unfold vpick
        rw [if_neg a, if_neg b, if_neg a, if_neg b]
        refine ⟨rfl, rfl, rfl, fun k hk => ?_, fun z k hk => ?_⟩
        · by_cases hq : pickk v = 6 ∨ pickk v = 7
          · exfalso
            unfold pickk at hq
            rcases hq with hq | hq
            · split at hq
              · omega
              · split at hq
                · split at hq <;> omega
                · omega
            · split at hq
              · omega
              · split at hq
                · split at hq <;> omega
                · omega
          · have hq2 : vq (vrow (pickk v) n fun k => vn v (if vk v ≤ 1 then 0 else o k)) = n := by
              show (if pickk v = 6 then n * 0 else if pickk v = 7 then 0 else n) = n
              rw [if_neg (show ¬ pickk v = 6 by omega), if_neg (show ¬ pickk v = 7 by omega)]
            rw [hq2] at hk
            show vn v (if vk v ≤ 1 then 0 else o k) = vn v (if vk v ≤ 1 then 0 else o' k)
            rw [h k hk]
        · exact veq_rf _ _
theorem s_pick_congr {e : Nat} {v : VV} {o o' : Nat → Nat} {n : Nat} (hc : vk v = 6 → 1 ≤ vc v) (h : ∀ k, k < n → o k = o' k) : oeq e (s_pick v o n) (s_pick v o' n) := by
  have hp := vpick_congr (e := e) hc h
  unfold s_pick
  by_cases a : vk v = 7
  · rw [if_pos a, if_pos a]
    by_cases b : 24 < n
    · rw [if_pos b, if_pos b]; exact rfl
    · rw [if_neg b, if_neg b]; exact hp
  · rw [if_neg a, if_neg a]
    by_cases b : vk v = 6
    · rw [if_pos b, if_pos b]
      by_cases c : n = 0
      · rw [if_pos c, if_pos c]; exact rfl
      · rw [if_neg c, if_neg c]
        by_cases f : 12 < n
        · rw [if_pos f, if_pos f]; exact rfl
        · rw [if_neg f, if_neg f]; exact hp
    · rw [if_neg b, if_neg b]; exact hp
/-! acts: the cells that they use, and what they leave -/
def scr (x : Nat) : Prop := 18 ≤ x ∧ x ≤ 31 ∧ x ≠ 25
/-- OneAct's and TwoAct's own cells -/
def actH (h : mj_H) : Prop := h[17]? = some (cO 3 [.ref 18, .ref 19, .ref 20, .ref 23, .ref 25]) ∧ (∃ f, h[18]? = some (cI 144 f)) ∧ (∃ f, h[19]? = some (cJ 144 f)) ∧ (∃ a, h[20]? = some (cO 6 [.ref 22, .ref 21, ii a]) ∧ 0 ≤ a ∧ a ≤ 121) ∧ (∃ f, h[21]? = some (cB 20 f)) ∧ (∃ f, h[22]? = some (cB 121 f)) ∧ (∃ a b c d e f g h1 h2 h3 h4, h[23]? = some (cO 5 [ii a, ii b, .ref 24, ii c, ii d, ii e, ii f, zz g, h1, h2, ii h3, ii h4])) ∧ (∃ f, h[24]? = some (cJ 1000 f)) ∧ (∃ f, h[26]? = some (cO 9 [.ref 27, .ref 29, .ref 30, .ref 31, ii f])) ∧ (∃ a b c d e f g h1 h2 h3 h4, h[27]? = some (cO 5 [ii a, ii b, .ref 28, ii c, ii d, ii e, ii f, zz g, h1, h2, ii h3, ii h4])) ∧ (∃ f, h[28]? = some (cJ 1000 f)) ∧ (∃ f, h[29]? = some (cI 144 f)) ∧ (∃ f, h[30]? = some (cJ 144 f)) ∧ (∃ f, h[31]? = some (cA 4 120 f))
theorem actH_app {h X : mj_H} (ha : actH h) : actH (h ++ X) := by
  obtain ⟨a1, ⟨f2, a2⟩, ⟨f3, a3⟩, ⟨f4, a4, b4⟩, ⟨f5, a5⟩, ⟨f6, a6⟩, ⟨x1, x2, x3, x4, x5, x6, x7, x8, x9, x10, x11, a7⟩, ⟨f8, a8⟩, ⟨f9, a9⟩, ⟨y1, y2, y3, y4, y5, y6, y7, y8, y9, y10, y11, a10⟩, ⟨f11, a11⟩, ⟨f12, a12⟩, ⟨f13, a13⟩, ⟨f14, a14⟩⟩ := ha
  exact ⟨hl_app a1, ⟨f2, hl_app a2⟩, ⟨f3, hl_app a3⟩, ⟨f4, hl_app a4, b4⟩, ⟨f5, hl_app a5⟩, ⟨f6, hl_app a6⟩, ⟨x1, x2, x3, x4, x5, x6, x7, x8, x9, x10, x11, hl_app a7⟩, ⟨f8, hl_app a8⟩, ⟨f9, hl_app a9⟩, ⟨y1, y2, y3, y4, y5, y6, y7, y8, y9, y10, y11, hl_app a10⟩, ⟨f11, hl_app a11⟩, ⟨f12, hl_app a12⟩, ⟨f13, hl_app a13⟩, ⟨f14, hl_app a14⟩⟩
/-- scratch cells alone have changed, each as large as it was -/
def scrS (h h1 : mj_H) : Prop := h1.length = h.length ∧ mj_sl h1 = mj_sl h ∧ (∀ x, ¬ scr x → h1[x]? = h[x]?)
theorem scrS_rf (h : mj_H) : scrS h h := ⟨rfl, rfl, fun _ _ => rfl⟩
theorem scrS_tr {h h1 h2 : mj_H} (a : scrS h h1) (b : scrS h1 h2) : scrS h h2 := ⟨b.1.trans a.1, b.2.1.trans a.2.1, fun x hx => (b.2.2 x hx).trans (a.2.2 x hx)⟩
theorem scrS_set {h : mj_H} {a : Nat} {e e' : mj_E} (ha : scr a) (hg : h[a]? = some e) (hs : mj_sl1 e' = mj_sl1 e) : scrS h (h.set a e') := ⟨by rw [List.length_set], sl_set hg hs, fun x hx => by rw [List.getElem?_set_ne (show a ≠ x from fun z => hx (by rw [← z]; exact ha))]⟩
theorem cv_scr {A : Nat → Prop} {h h1 : mj_H} (hA : okA A h) (hs : scrS h h1) {d p : Nat} {v : VV} (hv : cv A h d p v) : cv A h1 d p v := cv_keep (fun a e ha hg => ⟨ha, (hs.2.2 a (fun z => by have := hA a ha; unfold scr at z; omega)).trans hg⟩) hv
theorem okA_scr {A : Nat → Prop} {h h1 : mj_H} (hA : okA A h) (hs : scrS h h1) : okA A h1 := fun a ha => by have := hA a ha; rw [hs.1]; exact this
/-- what an act of the class comes to -/
def aact (A : Nat → Prop) (h : mj_H) (e : Nat) (o : Nat ⊕ VV) (a b : Nat) (r : Value) (h' : mj_H) : Prop := ∃ h1, scrS h h1 ∧ actH h1 ∧ ares A h1 e o a b r h'
