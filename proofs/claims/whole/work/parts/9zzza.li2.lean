/-! the tokens of a line: verbs, ADVERBS, names; the place of its name -/
theorem tkB_56 {bf : Nat → Int} {ln : Nat} {fn : Int → Bool} {p bh : Nat} (h : tqS (tkB bf ln fn p bh) = 5 ∨ tqS (tkB bf ln fn p bh) = 6) : tqS (tkB bf ln fn p bh) = (sobI (bf p)).toNat ∧ tqD (tkB bf ln fn p bh) = bf p := by
  by_cases z : isDgI (bf p) ∨ isLtI (bf p)
  · by_cases y : bh = 1 ∨ bh = 3 ∨ bh = 4
    · rw [tkB_bad z y] at h; exact absurd (show (8 : Nat) = 5 ∨ (8 : Nat) = 6 from h) (by decide)
    · by_cases x : isDgI (bf p)
      · rw [tkB_dg x y] at h; exact absurd (show (1 : Nat) = 5 ∨ (1 : Nat) = 6 from h) (by decide)
      · have x2 : isLtI (bf p) := by omega
        rw [tkB_lt x2 y] at h
        have h : (if fn (ckI bf p (rnL ltB bf ln 8 p)) = true then 4 else 3) = 5 ∨ (if fn (ckI bf p (rnL ltB bf ln 8 p)) = true then 4 else 3) = 6 := h
        by_cases q : fn (ckI bf p (rnL ltB bf ln 8 p)) = true
        · rw [if_pos q] at h; omega
        · rw [if_neg q] at h; omega
  · by_cases y : bf p = 95 ∧ isDgI (byA bf ln ((p + 1 : Nat) : Int))
    · rw [tkB_ng y.1 y.2] at h; exact absurd (show (1 : Nat) = 5 ∨ (1 : Nat) = 6 from h) (by decide)
    · by_cases x : bf p = 39 ∧ ¬ (bh = 4 ∨ bh = 5 ∨ bh = 6)
      · by_cases w : 0 < rnL txB bf ln 60 (p + 1) ∧ byA bf ln ((p + 1 + rnL txB bf ln 60 (p + 1) : Nat) : Int) = 39
        · rw [tkB_tx x.1 x.2 w] at h; exact absurd (show (2 : Nat) = 5 ∨ (2 : Nat) = 6 from h) (by decide)
        · rw [tkB_tn x.1 x.2 w] at h; exact absurd (show (8 : Nat) = 5 ∨ (8 : Nat) = 6 from h) (by decide)
      · by_cases w : sobI (bf p) = 0
        · rw [tkB_no z y x w] at h; exact absurd (show (8 : Nat) = 5 ∨ (8 : Nat) = 6 from h) (by decide)
        · rw [tkB_sg z y x w]; exact ⟨rfl, rfl⟩
theorem sob_5 {c : Int} (h : sobI c = 5) : c = 33 ∨ c = 35 ∨ c = 36 ∨ c = 37 ∨ c = 38 ∨ c = 42 ∨ c = 43 ∨ c = 44 ∨ c = 45 ∨ c = 46 ∨ c = 60 ∨ c = 61 ∨ c = 62 ∨ c = 63 ∨ c = 64 ∨ c = 94 ∨ c = 95 ∨ c = 124 ∨ c = 126 := by
  unfold sobI at h
  by_cases z : c ∈ vrL
  · unfold vrL at z
    simp only [List.mem_cons, List.not_mem_nil, or_false] at z
    omega
  · rw [if_neg z] at h
    by_cases y : c = 47 ∨ c = 92 ∨ c = 39
    · rw [if_pos y] at h; omega
    · rw [if_neg y] at h
      split at h <;> omega
theorem sob_6 {c : Int} (h : sobI c = 6) : c = 39 ∨ c = 47 ∨ c = 92 := by
  unfold sobI at h
  by_cases z : c ∈ vrL
  · rw [if_pos z] at h; omega
  · rw [if_neg z] at h
    by_cases y : c = 47 ∨ c = 92 ∨ c = 39
    · omega
    · rw [if_neg y] at h
      split at h <;> omega
section toks
variable {bf : Nat → Int} {ln : Nat} {F : Nat → Int → Bool}
theorem tkI_56 {i : Nat} (h : tqS (tkI bf ln F i) = 5 ∨ tqS (tkI bf ln F i) = 6) : ∃ c : Int, tqD (tkI bf ln F i) = c ∧ (tqS (tkI bf ln F i) = (sobI c).toNat) := by
  by_cases z : skB bf ln (tkQ bf ln F i).1 < ln
  · rw [tkI_in z] at h ⊢
    have := tkB_56 h
    exact ⟨_, this.2, this.1⟩
  · rw [tkI_out z] at h; exact absurd (show (0 : Nat) = 5 ∨ (0 : Nat) = 6 from h) (by decide)
theorem tkI_TKO : TKO (tkI bf ln F) := by
  refine ⟨fun j h => ?_, fun j h => ?_, fun j h => tkI_nm h⟩
  · obtain ⟨c, e1, e2⟩ := tkI_56 (Or.inr h)
    have := sobI_r c
    rw [e1]; exact sob_6 (by omega)
  · obtain ⟨c, e1, e2⟩ := tkI_56 (Or.inl h)
    have := sobI_r c
    rw [e1]; exact sob_5 (by omega)
/-- where the line's name stands -/
theorem tk_p0 (h : tqS (tkI bf ln F 0) = 3 ∨ tqS (tkI bf ln F 0) = 4) : tqP (tkI bf ln F 0) < ln ∧ (∀ k, k < tqP (tkI bf ln F 0) → bf k = 32) ∧ bf (tqP (tkI bf ln F 0)) ≠ 32 := by
  have e := tkI_p (bf := bf) (ln := ln) (F := F) 0
  have hs : skB bf ln (tkQ bf ln F 0).1 < ln := by
    by_cases z : skB bf ln (tkQ bf ln F 0).1 < ln
    · exact z
    · rw [tkI_out z] at h; exact absurd (show (0 : Nat) = 3 ∨ (0 : Nat) = 4 from h) (by decide)
  refine ⟨by omega, fun k hk => ?_, ?_⟩
  · have e2 : skB bf ln (tkQ bf ln F 0).1 = 0 + rnL blB bf ln ln 0 := rfl
    have := (rnL_run (P := blB) (f := bf) (ln := ln) ln 0 k (by omega) (by omega)).2
    exact of_decide_eq_true this
  · rw [e]
    rw [tkI_in hs] at h
    generalize skB bf ln (tkQ bf ln F 0).1 = p at *
    intro h32
    have z : ¬ (isDgI (bf p) ∨ isLtI (bf p)) := by rw [h32]; decide
    have y : ¬ (bf p = 95 ∧ isDgI (byA bf ln ((p + 1 : Nat) : Int))) := fun q => by rw [h32] at q; exact absurd q.1 (by decide)
    have w : sobI (bf p) = 0 := by rw [h32]; decide
    rw [tkB_no z y (fun q => by rw [h32] at q; exact absurd q.1 (by decide)) w] at h
    exact absurd (show (8 : Nat) = 3 ∨ (8 : Nat) = 4 from h) (by decide)
end toks
section amds
variable {xt : mj_X} {pre post : mj_H} {Nv : Int → Option VV} {Fn : Int → Option (Nat → Tok)} {T : Nat → Tok} {mk ln : Nat}
/-- the spec of amending, behind the new value -/
def dA2 (Nv : Int → Option VV) (Fn : Int → Option (Nat → Tok)) (T : Nat → Tok) (W : Nat) (u : VV) : DR := dB (eE (eC Nv Fn 10) T Nv none none none fuR 0 1 3 zB W) (fun W w => dB (dNm Nv none none none (tqD (T 0)) (tqP (T 0) : Int) W) (fun W l => dAm none W l w u (tqP (T 1) : Int)))
theorem R_amends {d W N uq sp B j : Nat} {s : RS} {u : VV} (hm : pre.length = 102) (hRS : RSO) (hRT : RST2) (hRP : RPA) (hRA : RMA) (hAM : RAM) (hd : 1200 ≤ d) (hK : TOKS T mk ln) (hT : TKO T) (hO : DOK s W 10 N) (hE : ENR Nv Fn none none 10 s) (hu : gr s uq u) (h56 : s.2.1 56 = Int64.ofInt (tqR (T 0))) (h0 : tqS (T 0) = 3 ∨ tqS (T 0) = 4) (hown : tqD (T 0) ≠ 24 ∧ tqD (T 0) ≠ 25) (h55 : s.1 55 = (sp : Int)) (hB : B ≤ 84000) (hsp : sp < B) (hr : rR s T fuR 0 1 3 B sp (-1)) (h3 : 3 ≤ mk) (hp : pR T fuR 0 1 3 = .inr j) (h57 : s.1 57 = (tqP (T 1) : Int)) (hN : (j - 3) + 7484 ≤ N) (hp0 : tqP (T 0) < 220) (hbl : ∀ k, k < tqP (T 0) → s.2.2.1 32 k = 32) (hend : s.2.2.1 32 (tqP (T 0)) ≠ 32 ∧ -128 ≤ s.2.2.1 32 (tqP (T 0)) ∧ s.2.2.1 32 (tqP (T 0)) ≤ 127) : pgV xt d 300 [.ref 102, ii (uq : Int)] (rS pre post s) (RA pre post (dq s W 0 (N : Int) (dA2 Nv Fn T W u))) := by
  have hcp : cpS s = none := by
    unfold cpS
    rw [if_neg (by have := hO.2.2.1.2; omega)]
  have hw := R_worth (xt := xt) (post := post) (d := d - 1) hm hRS hRT hRP hK hT h3 hp (by decide) (by omega) (DOK_n hO (by omega)) hE hB hsp hr
  rw [hcp, ← h55] at hw
  obtain ⟨L, hL⟩ : ∃ L, L = dA2 Nv Fn T W u := ⟨_, rfl⟩
  rw [← hL]
  refine am_start hm (by omega) hw (fun t z hz h5 => ?_) (fun t z hz h5 => ?_)
  · rcases hs : eE (eC Nv Fn 10) T Nv none none none fuR 0 1 3 zB W with ⟨W', ⟨e, pl⟩ | w⟩
    · rw [hs] at hz
      have e1 : L = (W', .inl (e, pl)) := by rw [hL]; unfold dA2; rw [hs]; rfl
      rw [e1]
      exact dqE_n hz (by omega)
    · rw [hs] at hz
      have := hz.1.2.2.1
      omega
  · rcases hs : eE (eC Nv Fn 10) T Nv none none none fuR 0 1 3 zB W with ⟨W1, ⟨e, pl⟩ | w⟩
    · rw [hs] at hz
      have e5 : t.1 5 = (e : Int) := hz.2.2.2.2.1
      have e7 : 1 ≤ e ∧ e ≤ 100 := hz.2.2.2.2.2.2.1
      omega
    · rw [hs] at hz
      obtain ⟨hz, q, rfl, hg⟩ := hz
      have hOt : DOK t W1 10 N := DOK_j hO hz (by omega) (by omega)
      have hEt := ENR_x hz.1 hz.2.1 hE
      have hct : cpS t = none := (PM_cp hz).trans hcp
      have hut := gr_x hz.1 hu
      have e56 : t.2.1 56 = Int64.ofInt (tqR (T 0)) := by rw [hz.2.1.2.2.1]; exact h56
      have e57 : t.1 57 = (tqP (T 1) : Int) := (dfr_i hz.2.1 (by omega)).trans h57
      have a32 : t.2.2.1 32 = s.2.2.1 32 := dfr_a hz.2.1 (by decide)
      have e1 : L = dB (dNo none (tqP (T 0) : Int) W1 (Nv (tqD (T 0)))) (fun W l => dAm none W l w u (tqP (T 1) : Int)) := by
        rw [hL]; unfold dA2; rw [dBv hs, dNm_o, if_neg hown.1, if_neg hown.2]
      obtain ⟨q2, b, base, q4, q3', h13, q3, qq, b2, hbs, hca⟩ := DOK_nat hOt
      have hOt2 := hOt
      obtain ⟨hBt, ht5, hk, ⟨h8, hW5⟩, hw13, hC, hV⟩ := hOt
      obtain ⟨n, m, a1, a2, a3, a4, a5, -⟩ := hEt.1
      rcases a5 (tqD (T 0)) (tqR (T 0)) (hT.2.2 0 h0) with ⟨z1, z2⟩ | ⟨z1, hd, l, z2, z3, z4⟩
      · rw [e1, z2]
        refine am_none (n := n) (m := m) (p0 := tqP (T 0)) hm (by omega) ht5 (by omega) a1 a2 a3 a4 e56 z1 hp0 (fun k hk => by rw [a32]; exact hbl k hk) (by rw [a32]; exact hend) (PQ_i (by rw [failS_5]; decide) (by omega) ?_)
        have := dqE_fl (e := 2) (nd := (N : Int)) (pl := (tqP (T 0) : Int)) hz (by omega) (by omega) (by omega)
        rw [hcp] at this
        exact this
      · have e2 : L = dAm none W1 l w u (tqP (T 1) : Int) := by rw [e1, z3]; rfl
        have fin : ∀ r h', (∃ x, r = some x ∧ dres pre post t W1 0 (N : Int) (dAm (cpS t) W1 l w u (tqP (T 1) : Int)) x h') → PQ pre post (dq s W 0 (N : Int) L) r h' := fun r h' ⟨x, hx, hr⟩ => by
          refine ⟨x, hx, ?_⟩
          rw [hct] at hr
          rw [e2]
          exact RA_mono (RA_d hr (by omega) (by omega)) (fun u2 z2 h2 => dq_tr hz h2 (Int.le_refl _) (by omega))
        by_cases hone : vk w ≤ 1 ∨ vk u ≤ 1
        · exact pg_imp (am_go1 (nd := (N : Int)) hm (by omega) hRA hAM hBt z4.2.1 z4.1 hg.2.1 hg.1 hut.2.1 hut.1 z4.2.2.1 hg.2.2.1 hut.2.2.1 q4 q3' q3 qq ht5 (by omega) b2 h13 hbs h8 hW5 (by omega) a1 a2 a3 a4 e56 rfl z1 z2 e57 hone) fin
        · exact pg_imp (am_go2 (nd := (N : Int)) hm (by omega) hRA hAM hBt z4.2.1 z4.1 hg.2.1 hg.1 hut.2.1 hut.1 z4.2.2.1 hg.2.2.1 hut.2.2.1 q4 q3' q3 qq ht5 (by omega) b2 h13 hbs h8 hW5 (by omega) a1 a2 a3 a4 e56 rfl z1 z2 e57 hone) fin
end amds
