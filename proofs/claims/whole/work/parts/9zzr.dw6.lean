/-! the reference does: FOLD and RUN; an act with its ADVERBS -/
section folds
variable {xt : mj_X} {pre post : mj_H} {Nv : Int → Option VV} {Fn : Int → Option (Nat → Tok)} {x y : Option VV} {T : Nat → Tok} {i k a : Nat}
theorem gr_m {s : RS} {q : Nat} {v : VV} (h : gr s q v) : vm v ≤ 120 ∧ vk v ≤ 7 ∧ vw1 v := by
  have w := (rv_wf h.2.1).1
  have := vw1_m w
  exact ⟨this.1, this.2.2, w⟩
theorem fold0_lp {d W act wq : Nat} {s : RS} {w : VV} {b cw : Int} {R : DR} {K : Nat → VV → (Nat → VV) → DR} {Q : RS → Int → Prop} (hm : pre.length = 102) (ha3 : a ≤ 3) (hA : CAP xt pre post Nv Fn x y T i k a) (hd : 100 * k + 2 * a + 80 ≤ d) (hO : DOK s W k (121 * (a + 1) + 700 * k)) (hE : ENR Nv Fn x y k s) (hac : acV s T i act) (hwL : wq < 310000) (hc4 : 4 ≤ cw) (hK : ∀ W v ch, K W v ch = (W, .inr v)) (hQ : ∀ t z, dq s W cw ((121 * (a + 1) + 700 * k : Nat) : Int) R t z → Q t z) : ∀ (r j m W1 vq : Nat) (t : RS) (v : VV) (ch : Nat → VV) (c : Int), j + r = vm w → cw ≤ c → PM s W c t W1 0 → gr t vq v → gr t wq w → R = dFo (fun j v W => dAp (eC Nv Fn k) T i (cpS s) a (some v) (vit w j) W) K r j m v ch W1 → HF xt d pre post t act wq j (rvI T (i + 1) a) 0 (tqP (T i) : Int) b (vq : Int) (PQ pre post Q) := by
  have hk10 : k ≤ 10 := hO.2.2.1.1
  have h13 := hO.2.2.2.2.1
  intro r
  induction r with
  | zero =>
    intro j m W1 vq t v ch c hj hc hp hv hg hr
    have ht : DOK t W1 k 0 := DOK_j hO hp (by omega) (by omega)
    have hvL := gr_lt ht hv
    have hgm := gr_m hg
    have t5 := hp.2.2.1
    refine f_end0 hm (by omega) hwL hg.2.1 hgm.1 t5 (by omega) (PQ_i (by omega) (by omega) (hQ t _ ?_))
    rw [hr]
    show dq s W cw _ (K W1 v ch) t _
    rw [hK]
    exact ⟨PM_c hp hc, vq, rfl, hv⟩
  | succ r ih =>
    intro j m W1 vq t v ch c hj hc hp hv hg hr
    have ht0 : DOK t W1 k 0 := DOK_j hO hp (by omega) (by omega)
    have hgm := gr_m hg
    have hit := R_item (xt := xt) (post := post) (d := d) (i := j) hm (by omega) ht0 hg (Or.inr (by omega)) (by omega)
    refine f_turn0 hm (by omega) hwL hg.2.1 hgm.1 hp.2.2.1 (by omega) hit (Q2 := GQ (QA s W (c - 5) W1 0 ch wq w ((121 * a + 700 * k : Nat) : Int) 9 (dAp (eC Nv Fn k) T i (cpS s) a (some v) (vit w j) W1))) (fun u z hz => ?_) (fun u z hz => ?_)
    · obtain ⟨pm, q, rfl, hq⟩ := hz
      have p2 : PM s W (c - 5) u W1 0 := by
        have := PM_tr hp pm
        rw [show c + -5 = c - 5 by omega] at this
        exact this
      have hu : DOK u W1 k (121 * a + 700 * k) := DOK_j hO p2 (by omega) (by omega)
      have hap := hA d W1 act q u (vq : Int) (some v) (vit w j) hd hu (ENR_x p2.1 p2.2.1 hE) (acV_x p2.2.1 hac) ⟨vq, rfl, gr_x pm.1 hv⟩ hq
      rw [PM_cp p2] at hap
      exact pgV_g (pgV_i hap (fun v h' z => RA_mono z (fun t2 z2 h2 => ⟨u, p2, fun _ hi => absurd hi (by omega), gr_x pm.1 hg, h2⟩)))
    · obtain ⟨z5, zr, u0, hu, -, hug, hz⟩ := hz
      rcases hs : dAp (eC Nv Fn k) T i (cpS s) a (some v) (vit w j) W1 with ⟨W', ⟨e, pl⟩ | v2⟩
      · rw [hs] at hz
        have he := dqE_tr (nd := ((121 * (a + 1) + 700 * k : Nat) : Int)) hu hz (by omega) (by omega)
        have e5 := he.2.2.2.2.1
        have e7 := he.2.2.2.2.2.2.1
        have hgu := gr_x hz.1 hug
        refine f_err0 hm (by omega) hwL hgu.2.1 hgm.1 (by omega) (by omega) (PQ_e he (hQ u _ ?_))
        rw [hr]
        show dq s W cw _ (dB (dAp (eC Nv Fn k) T i (cpS s) a (some v) (vit w j) W1) _) u (-1)
        rw [hs]
        exact he
      · rw [hs] at hz
        obtain ⟨hz, q, rfl, hq⟩ := hz
        refine ih (j + 1) (m + 1) W' q u v2 (va_up ch m v2) (c - 5 + 9) (by omega) (by omega) (PM_tr hu hz) hq (gr_x hz.1 hug) ?_
        rw [hr]
        show dB (dAp (eC Nv Fn k) T i (cpS s) a (some v) (vit w j) W1) _ = _
        rw [hs]
        rfl
theorem fold1_lp {d W act wq base cnt : Nat} {s : RS} {w : VV} {cw : Int} {R : DR} {K : Nat → VV → (Nat → VV) → DR} {Q : RS → Int → Prop} (hm : pre.length = 102) (ha3 : a ≤ 3) (hA : CAP xt pre post Nv Fn x y T i k a) (hd : 100 * k + 2 * a + 80 ≤ d) (hO : DOK s W k (121 * (a + 1) + 700 * k)) (hE : ENR Nv Fn x y k s) (hac : acV s T i act) (hwL : wq < 310000) (hc4 : cw ≤ 9) (hb : s.1 13 = (base : Int)) (hK : ∀ W v ch, K W v ch = dGa (cpS s) W cnt ch (tqP (T i) : Int)) (hQ : ∀ t z, dq s W cw ((121 * (a + 1) + 700 * k : Nat) : Int) R t z → Q t z) : ∀ (r j m W1 vq : Nat) (t : RS) (v : VV) (ch : Nat → VV) (c : Int), j + r = vm w → m + r = cnt → m ≤ j + 1 → 4 ≤ c → PM s W c t W1 m → WV s t m ch → gr t vq v → gr t wq w → R = dFo (fun j v W => dAp (eC Nv Fn k) T i (cpS s) a (some v) (vit w j) W) K r j m v ch W1 → HF xt d pre post t act wq j (rvI T (i + 1) a) 1 (tqP (T i) : Int) (base : Int) (vq : Int) (PQ pre post Q) := by
  have hk10 : k ≤ 10 := hO.2.2.1.1
  have h13 := hO.2.2.2.2.1
  intro r
  induction r with
  | zero =>
    intro j m W1 vq t v ch c hj hcn hmj hc hp hwv hv hg hr
    have hgm := gr_m hg
    have t5 := hp.2.2.1
    refine f_end1 hm (by omega) hwL hg.2.1 hgm.1 t5 (by omega) (pgV_g (R_ga (pl := (tqP (T i) : Int)) hm (by omega) hO hp hwv (by omega) (by omega) (by omega) hb)) (fun u z hz => PQ_i hz.1 hz.2.1 (hQ u z ?_))
    rw [hr]
    show dq s W cw _ (K W1 v ch) u z
    rw [hK, ← hcn, Nat.add_zero]
    exact dq_w hz.2.2 (by omega) (Int.le_refl _)
  | succ r ih =>
    intro j m W1 vq t v ch c hj hcn hmj hc hp hwv hv hg hr
    have hgm := gr_m hg
    have ht0 : DOK t W1 k 0 := DOK_j hO hp (by omega) (by omega)
    have hit := R_item (xt := xt) (post := post) (d := d) (i := j) hm (by omega) ht0 hg (Or.inr (by omega)) (by omega)
    refine f_turn1 hm (by omega) hwL hg.2.1 hgm.1 hp.2.2.1 (by omega) hit (Q2 := GQ (QA s W (c - 5) W1 m ch wq w ((121 * a + 700 * k : Nat) : Int) 9 (dAp (eC Nv Fn k) T i (cpS s) a (some v) (vit w j) W1))) (fun u z hz => ?_) (fun u z hz => QA_w h13.1 hz.2.2 (by omega)) (fun u z w1 hz hw1 => ?_)
    · obtain ⟨pm, q, rfl, hq⟩ := hz
      have p2 : PM s W (c - 5) u W1 m := by
        have := PM_tr hp pm
        rw [show c + -5 = c - 5 by omega] at this
        exact this
      have hu : DOK u W1 k (121 * a + 700 * k) := DOK_j hO p2 (by omega) (by omega)
      have hap := hA d W1 act q u (vq : Int) (some v) (vit w j) hd hu (ENR_x p2.1 p2.2.1 hE) (acV_x p2.2.1 hac) ⟨vq, rfl, gr_x pm.1 hv⟩ hq
      rw [PM_cp p2] at hap
      exact pgV_g (pgV_i hap (fun v h' z => RA_mono z (fun t2 z2 h2 => ⟨u, p2, WV_x h13.1 hwv hp.2.2.2.2.2.2.1 pm.1 pm.2.1, gr_x pm.1 hg, h2⟩)))
    · obtain ⟨z5, zr, hz⟩ := hz
      rcases hs : dAp (eC Nv Fn k) T i (cpS s) a (some v) (vit w j) W1 with ⟨W', ⟨e, pl⟩ | v2⟩
      · rw [hs] at hz
        have he := QA_e (N := 121 * (a + 1) + 700 * k) (zz := z) hz hw1 (by omega) (by omega)
        obtain ⟨u0, hu, -, hug, hz⟩ := hz
        have e5 := he.2.2.2.2.1
        have e7 := he.2.2.2.2.2.2.1
        have hgu := gr_x (rext_psh (w0 := w1) (z := z)) (gr_x hz.1 hug)
        refine f_err1 hm (by omega) hwL hgu.2.1 hgm.1 (by omega) (by omega) (PQ_e he (hQ _ _ ?_))
        rw [hr]
        show dq s W cw _ (dB (dAp (eC Nv Fn k) T i (cpS s) a (some v) (vit w j) W1) _) _ (-1)
        rw [hs]
        exact he
      · rw [hs] at hz
        obtain ⟨g1, g2, g3⟩ := QA_v h13.1 hz hw1
        obtain ⟨u0, hu, -, hug, hz, q, rfl, hq⟩ := hz
        refine ih (j + 1) (m + 1) W' q (pshS u w1 (q : Int)) v2 (va_up ch m v2) (c - 5 + 9) (by omega) (by omega) (by omega) (by omega) g1 g2 (gr_x rext_psh hq) g3 ?_
        rw [hr]
        show dB (dAp (eC Nv Fn k) T i (cpS s) a (some v) (vit w j) W1) _ = _
        rw [hs]
        rfl
/-- the ADVERB that stands last is taken off -/
theorem a_no_ {d aa : Nat} {t : RS} {wz lo cc lz A : Int} {Q : RS → Int → Prop} (hm : pre.length = 102) (hd : 3 ≤ d) (ha : aa < 84000) (h3 : a ≤ 3) (hA : A = lo + cc * 4 ^ a) (hlo : 0 ≤ lo ∧ lo < 4 ^ a) (hcc : 1 ≤ cc ∧ cc ≤ 3) (h5 : t.1 5 = 0) (hca : 0 ≤ t.1 10 ∧ t.1 10 ≤ 100) (h8 : 0 ≤ t.1 8 ∧ t.1 8 ≤ 500000) (hW : t.1 8 < 3) (kk : Q (failS t 10 (t.2.2.1 47 aa)) (-1)) : pgV xt d 279 [.ref 102, ii (aa : Int), ii A, ii lz, ii wz] (rS pre post t) (RA pre post Q) := by
  have h4 : a = 0 ∨ a = 1 ∨ a = 2 ∨ a = 3 := by omega
  rcases h4 with rfl | rfl | rfl | rfl
  · rw [show (4 : Int) ^ 0 = 1 by decide] at hA hlo; exact a_no0 hm (by omega) ha hA hlo hcc h5 hca h8 hd hW kk
  · rw [show (4 : Int) ^ 1 = 4 by decide] at hA hlo; exact a_no1 hm (by omega) ha hA hlo hcc h5 hca h8 hd hW kk
  · rw [show (4 : Int) ^ 2 = 16 by decide] at hA hlo; exact a_no2 hm (by omega) ha hA hlo hcc h5 hca h8 hd hW kk
  · rw [show (4 : Int) ^ 3 = 64 by decide] at hA hlo; exact a_no3 hm (by omega) ha hA hlo hcc h5 hca h8 hd hW kk
theorem a_each_ {d aa : Nat} {t : RS} {wz lo cc lz A : Int} {Q : RS → Int → Prop} (hm : pre.length = 102) (hd : 3 ≤ d) (ha : aa < 84000) (h3 : a ≤ 3) (hA : A = lo + cc * 4 ^ a) (hlo : 0 ≤ lo ∧ lo < 4 ^ a) (hcc : 1 ≤ cc ∧ cc ≤ 3) (h5 : t.1 5 = 0) (hca : 0 ≤ t.1 10 ∧ t.1 10 ≤ 100) (h8 : 0 ≤ t.1 8 ∧ t.1 8 ≤ 500000) (hW : 3 ≤ t.1 8) (hcc3 : cc = 3) (hc : pgV xt (d - 1) 298 [.ref 102, ii (aa : Int), ii lo, ii lz, ii wz, ii (t.2.2.1 47 aa)] (rS pre post (takeS t 3)) (RA pre post Q)) : pgV xt d 279 [.ref 102, ii (aa : Int), ii A, ii lz, ii wz] (rS pre post t) (RA pre post Q) := by
  have h4 : a = 0 ∨ a = 1 ∨ a = 2 ∨ a = 3 := by omega
  rcases h4 with rfl | rfl | rfl | rfl
  · rw [show (4 : Int) ^ 0 = 1 by decide] at hA hlo; exact a_each0 hm (by omega) ha hA hlo hcc h5 hca h8 hd hW hcc3 hc
  · rw [show (4 : Int) ^ 1 = 4 by decide] at hA hlo; exact a_each1 hm (by omega) ha hA hlo hcc h5 hca h8 hd hW hcc3 hc
  · rw [show (4 : Int) ^ 2 = 16 by decide] at hA hlo; exact a_each2 hm (by omega) ha hA hlo hcc h5 hca h8 hd hW hcc3 hc
  · rw [show (4 : Int) ^ 3 = 64 by decide] at hA hlo; exact a_each3 hm (by omega) ha hA hlo hcc h5 hca h8 hd hW hcc3 hc
theorem a_fold1_ {d aa : Nat} {t : RS} {wz lo cc lz A : Int} {Q : RS → Int → Prop} (hm : pre.length = 102) (hd : 3 ≤ d) (ha : aa < 84000) (h3 : a ≤ 3) (hA : A = lo + cc * 4 ^ a) (hlo : 0 ≤ lo ∧ lo < 4 ^ a) (hcc : 1 ≤ cc ∧ cc ≤ 3) (h5 : t.1 5 = 0) (hca : 0 ≤ t.1 10 ∧ t.1 10 ≤ 100) (h8 : 0 ≤ t.1 8 ∧ t.1 8 ≤ 500000) (hW : 3 ≤ t.1 8) (hcc3 : cc = 1) (hc : pgV xt (d - 1) 299 [.ref 102, ii (aa : Int), ii lo, ii lz, ii wz, ii 0, ii (t.2.2.1 47 aa)] (rS pre post (takeS t 3)) (RA pre post Q)) : pgV xt d 279 [.ref 102, ii (aa : Int), ii A, ii lz, ii wz] (rS pre post t) (RA pre post Q) := by
  have h4 : a = 0 ∨ a = 1 ∨ a = 2 ∨ a = 3 := by omega
  rcases h4 with rfl | rfl | rfl | rfl
  · rw [show (4 : Int) ^ 0 = 1 by decide] at hA hlo; exact a_fold01 hm (by omega) ha hA hlo hcc h5 hca h8 hd hW hcc3 hc
  · rw [show (4 : Int) ^ 1 = 4 by decide] at hA hlo; exact a_fold11 hm (by omega) ha hA hlo hcc h5 hca h8 hd hW hcc3 hc
  · rw [show (4 : Int) ^ 2 = 16 by decide] at hA hlo; exact a_fold21 hm (by omega) ha hA hlo hcc h5 hca h8 hd hW hcc3 hc
  · rw [show (4 : Int) ^ 3 = 64 by decide] at hA hlo; exact a_fold31 hm (by omega) ha hA hlo hcc h5 hca h8 hd hW hcc3 hc
theorem a_fold2_ {d aa : Nat} {t : RS} {wz lo cc lz A : Int} {Q : RS → Int → Prop} (hm : pre.length = 102) (hd : 3 ≤ d) (ha : aa < 84000) (h3 : a ≤ 3) (hA : A = lo + cc * 4 ^ a) (hlo : 0 ≤ lo ∧ lo < 4 ^ a) (hcc : 1 ≤ cc ∧ cc ≤ 3) (h5 : t.1 5 = 0) (hca : 0 ≤ t.1 10 ∧ t.1 10 ≤ 100) (h8 : 0 ≤ t.1 8 ∧ t.1 8 ≤ 500000) (hW : 3 ≤ t.1 8) (hcc3 : cc = 2) (hc : pgV xt (d - 1) 299 [.ref 102, ii (aa : Int), ii lo, ii lz, ii wz, ii 1, ii (t.2.2.1 47 aa)] (rS pre post (takeS t 3)) (RA pre post Q)) : pgV xt d 279 [.ref 102, ii (aa : Int), ii A, ii lz, ii wz] (rS pre post t) (RA pre post Q) := by
  have h4 : a = 0 ∨ a = 1 ∨ a = 2 ∨ a = 3 := by omega
  rcases h4 with rfl | rfl | rfl | rfl
  · rw [show (4 : Int) ^ 0 = 1 by decide] at hA hlo; exact a_fold02 hm (by omega) ha hA hlo hcc h5 hca h8 hd hW hcc3 hc
  · rw [show (4 : Int) ^ 1 = 4 by decide] at hA hlo; exact a_fold12 hm (by omega) ha hA hlo hcc h5 hca h8 hd hW hcc3 hc
  · rw [show (4 : Int) ^ 2 = 16 by decide] at hA hlo; exact a_fold22 hm (by omega) ha hA hlo hcc h5 hca h8 hd hW hcc3 hc
  · rw [show (4 : Int) ^ 3 = 64 by decide] at hA hlo; exact a_fold32 hm (by omega) ha hA hlo hcc h5 hca h8 hd hW hcc3 hc
theorem CAP_s (hm : pre.length = 102) (ha3 : a ≤ 3) (h6 : tqD (T (i + 1 + a)) = 39 ∨ tqD (T (i + 1 + a)) = 47 ∨ tqD (T (i + 1 + a)) = 92) (hA : CAP xt pre post Nv Fn x y T i k a) : CAP xt pre post Nv Fn x y T i k (a + 1) := by
  intro d W act wq s lz l w hd hO hE hac hl hw
  have hrf := DOK_rf hO
  have hwL := gr_lt hO hw
  have hgm := gr_m hw
  obtain ⟨q, b, base, q4, q3', h13, q3, q2, b2, hb, hca⟩ := DOK_nat hO
  have hO2 := hO
  obtain ⟨hB, h5, ⟨hk10, h10⟩, ⟨h8, hW⟩, ⟨w1, w2⟩, hC, hV⟩ := hO
  have hap := hac.2.2.2
  have hlo := rvI_r T (i + 1) a
  have hcr := rcA_r (tqD (T (i + 1 + a)))
  have eA : rvI T (i + 1) (a + 1) = rvI T (i + 1) a + rcA (tqD (T (i + 1 + a))) * 4 ^ a := rfl
  obtain ⟨L, hL⟩ : ∃ L : DR, L = dAp (eC Nv Fn k) T i (cpS s) (a + 1) l w W := ⟨_, rfl⟩
  rw [← hL]
  by_cases hW3 : W < 3
  · have e : L = dEr (cpS s) W 10 (tqP (T i) : Int) := hL.trans (if_pos hW3)
    rw [e]
    refine a_no_ hm (by omega) hac.1 ha3 eA hlo hcr h5 (by omega) (by omega) (by omega) ?_
    rw [hap]
    exact dqE_fl (e := 10) hrf (by omega) (by omega) (by omega)
  have hp0 : PM s W 9 (takeS s 3) (W - 3) 0 := by
    have := PM_tk 3 hrf (by omega)
    exact PM_c this (by omega)
  have e13 : (takeS s 3).1 13 = (base : Int) := (takeS_k (by decide) (by decide)).trans h13
  have hwt := gr_x hp0.1 hw
  have hBt : rB (takeS s 3) := (DOK_j (N' := 0) hO2 hp0 (by omega) (by omega)).1
  have t10 : (takeS s 3).1 10 = s.1 10 := takeS_k (by decide) (by decide)
  have hwv0 : ∀ ch, WV s (takeS s 3) 0 ch := fun _ _ hi => absurd hi (by omega)
  have hOt : DOK (takeS s 3) (W - 3) k 0 := DOK_j hO2 hp0 (by omega) (by omega)
  have hdt : ∀ F : Nat → DR, dTk (cpS s) W 3 (tqP (T i) : Int) F = F (W - 3) := fun F => if_neg hW3
  by_cases h39 : tqD (T (i + 1 + a)) = 39
  · have hr3 : rcA (tqD (T (i + 1 + a))) = 3 := by rw [h39]; decide
    refine a_each_ hm (by omega) hac.1 ha3 eA hlo hcr h5 (by omega) (by omega) (by omega) hr3 ?_
    rw [hap]
    cases l with
    | none =>
      have e : L = dLp (fun j W => dAp (eC Nv Fn k) T i (cpS s) a none (vit w j) W) (fun W ch => dGa (cpS s) W (vm w) ch (tqP (T i) : Int)) (vm w) 0 (fun _ => w) (W - 3) := by
        rw [hL]
        show dTk (cpS s) W 3 (tqP (T i) : Int) _ = _
        rw [hdt]
        exact if_pos h39
      rw [show lz = -1 from hl]
      refine e_start1 (w := w) hm (by omega) (by omega) hBt hwt.2.1 ⟨hgm.1, hgm.2.1⟩ hwL ?_
      rw [e13]
      exact each1_lp hm ha3 hA (by omega) hO2 hE hac h13 hgm.1 (fun t z hz => by rw [e]; exact hz) (vm w) 0 (W - 3) (takeS s 3) (fun _ => w) (by omega) (PM_c hp0 (by omega)) (hwv0 _) hwt rfl
    | some v =>
      obtain ⟨lq, rfl, hlq⟩ := hl
      have hlL := gr_lt hO2 hlq
      have hlm := gr_m hlq
      have hlt := gr_x hp0.1 hlq
      by_cases hne : ¬ vk v ≤ 1 ∧ ¬ vk w ≤ 1 ∧ vm v ≠ vm w
      · have e : L = dEr (cpS s) (W - 3) 4 (tqP (T i) : Int) := by
          rw [hL]
          show dTk (cpS s) W 3 (tqP (T i) : Int) _ = _
          rw [hdt]
          exact (if_pos h39).trans (if_pos hne)
        rw [e]
        exact e_er4 (w := w) (l := v) hm (by omega) (by omega) hBt hwt.2.1 ⟨hgm.1, hgm.2.1⟩ hwL hlL hlt.2.1 ⟨hlm.1, hlm.2.1⟩ hp0.2.2.1 (by omega) hne (dqE_fl (e := 4) hp0 (by omega) (by omega) (by omega))
      · have e : L = dLp (fun j W => dAp (eC Nv Fn k) T i (cpS s) a (some (vit v j)) (vit w j) W) (fun W ch => dGa (cpS s) W (if vk w ≤ 1 then vm v else vm w) ch (tqP (T i) : Int)) (if vk w ≤ 1 then vm v else vm w) 0 (fun _ => w) (W - 3) := by
          rw [hL]
          show dTk (cpS s) W 3 (tqP (T i) : Int) _ = _
          rw [hdt]
          exact (if_pos h39).trans (if_neg hne)
        refine e_start2 (w := w) (l := v) hm (by omega) (by omega) hBt hwt.2.1 ⟨hgm.1, hgm.2.1⟩ hwL hlL hlt.2.1 ⟨hlm.1, hlm.2.1⟩ hne ?_
        rw [e13]
        exact each2_lp hm ha3 hA (by omega) hO2 hE hac h13 hgm.1 hlm.1 hne hlq rfl (fun z => by have := hgm.2.2.2.1 z; omega) (fun z => (hlm.2.2.2.1 z).1) (fun t z hz => by rw [e]; exact hz) (if vk w ≤ 1 then vm v else vm w) 0 (W - 3) (takeS s 3) (fun _ => w) (by omega) (PM_c hp0 (by omega)) (hwv0 _) hwt rfl
  · by_cases h47 : tqD (T (i + 1 + a)) = 47
    · have hr1 : rcA (tqD (T (i + 1 + a))) = 1 := by rw [h47]; decide
      refine a_fold1_ hm (by omega) hac.1 ha3 eA hlo hcr h5 (by omega) (by omega) (by omega) hr1 ?_
      rw [hap]
      cases l with
      | none =>
        rw [show lz = -1 from hl]
        by_cases h0 : vm w = 0
        · have e : L = dEr (cpS s) (W - 3) 4 (tqP (T i) : Int) := by
            rw [hL]
            show dTk (cpS s) W 3 (tqP (T i) : Int) _ = _
            rw [hdt]
            exact (if_neg h39).trans (if_pos h0)
          rw [e]
          exact f_e4 (w := w) hm (by omega) (by omega) hwL hwt.2.1 hgm.1 hp0.2.2.1 (by omega) h0 (dqE_fl (e := 4) hp0 (by omega) (by omega) (by omega))
        · have e : L = dFo (fun j v W => dAp (eC Nv Fn k) T i (cpS s) a (some v) (vit w j) W) (fun W v ch => if tqD (T (i + 1 + a)) = 47 then (W, .inr v) else dGa (cpS s) W (vm w) ch (tqP (T i) : Int)) (vm w - 1) 1 1 (vit w 0) (fun _ => vit w 0) (W - 3) := by
            rw [hL]
            show dTk (cpS s) W 3 (tqP (T i) : Int) _ = _
            rw [hdt]
            exact (if_neg h39).trans (if_neg h0)
          refine f_startA0 (w := w) hm (by omega) (by omega) hwL hwt.2.1 hgm.1 h0 (R_item (i := 0) hm (by omega) hOt hwt (Or.inr (by omega)) (by omega)) (fun u z hz => ?_)
          obtain ⟨pm, q', rfl, hq⟩ := hz
          exact fold0_lp (w := w) (cw := 4) hm ha3 hA (by omega) hO2 hE hac hwL (by omega) (fun _ _ _ => if_pos h47) (fun t z hz => hz) (vm w - 1) 1 1 (W - 3) q' u (vit w 0) (fun _ => vit w 0) (9 + -5) (by omega) (by omega) (PM_tr hp0 pm) hq (gr_x pm.1 hwt) e
      | some v =>
        obtain ⟨lq, rfl, hlq⟩ := hl
        have hlL := gr_lt hO2 hlq
        have e : L = dFo (fun j v W => dAp (eC Nv Fn k) T i (cpS s) a (some v) (vit w j) W) (fun W v ch => if tqD (T (i + 1 + a)) = 47 then (W, .inr v) else dGa (cpS s) W (vm w + 1) ch (tqP (T i) : Int)) (vm w) 0 1 v (fun _ => v) (W - 3) := by
          rw [hL]
          show dTk (cpS s) W 3 (tqP (T i) : Int) _ = _
          rw [hdt]
          exact if_neg h39
        refine f_startB0 (w := w) hm (by omega) (by omega) hwL hwt.2.1 hgm.1 hlL e13 (by omega) ?_
        exact fold0_lp (w := w) (cw := 9) hm ha3 hA (by omega) hO2 hE hac hwL (by omega) (fun _ _ _ => if_pos h47) (fun t z hz => hz) (vm w) 0 1 (W - 3) lq (takeS s 3) v (fun _ => v) 9 (by omega) (by omega) hp0 (gr_x hp0.1 hlq) hwt e
    · have h92 : tqD (T (i + 1 + a)) = 92 := by omega
      have hr2 : rcA (tqD (T (i + 1 + a))) = 2 := by rw [h92]; decide
      refine a_fold2_ hm (by omega) hac.1 ha3 eA hlo hcr h5 (by omega) (by omega) (by omega) hr2 ?_
      rw [hap]
      cases l with
      | none =>
        rw [show lz = -1 from hl]
        by_cases h0 : vm w = 0
        · have e : L = dEr (cpS s) (W - 3) 4 (tqP (T i) : Int) := by
            rw [hL]
            show dTk (cpS s) W 3 (tqP (T i) : Int) _ = _
            rw [hdt]
            exact (if_neg h39).trans (if_pos h0)
          rw [e]
          exact f_e4 (w := w) hm (by omega) (by omega) hwL hwt.2.1 hgm.1 hp0.2.2.1 (by omega) h0 (dqE_fl (e := 4) hp0 (by omega) (by omega) (by omega))
        · have e : L = dFo (fun j v W => dAp (eC Nv Fn k) T i (cpS s) a (some v) (vit w j) W) (fun W v ch => if tqD (T (i + 1 + a)) = 47 then (W, .inr v) else dGa (cpS s) W (vm w) ch (tqP (T i) : Int)) (vm w - 1) 1 1 (vit w 0) (fun _ => vit w 0) (W - 3) := by
            rw [hL]
            show dTk (cpS s) W 3 (tqP (T i) : Int) _ = _
            rw [hdt]
            exact (if_neg h39).trans (if_neg h0)
          refine f_startA1 (w := w) hm (by omega) (by omega) hwL hwt.2.1 hgm.1 h0 (R_item (i := 0) hm (by omega) hOt hwt (Or.inr (by omega)) (by omega)) (fun u z hz => ⟨base, by have := hz.1.2.2.2.2.2.2.1; omega, by omega⟩) (fun u z w1' hz hw1 => ?_)
          obtain ⟨pm, q', rfl, hq⟩ := hz
          have p1 := PM_tr hp0 pm
          have u13 := p1.2.2.2.2.2.2.1
          rw [e13]
          exact fold1_lp (w := w) (cw := 4) (cnt := vm w) hm ha3 hA (by omega) hO2 hE hac hwL (by omega) h13 (fun _ _ _ => if_neg h47) (fun t z hz => hz) (vm w - 1) 1 1 (W - 3) q' (pshS u w1' (q' : Int)) (vit w 0) (fun _ => vit w 0) (9 + -5) (by omega) (by omega) (by omega) (by omega) (PM_psh p1 hw1) (fun i2 hi2 => by
            rw [show (s.1 13).toNat + i2 = w1' by omega]
            exact ⟨q', psh_w, gr_x rext_psh hq⟩) (gr_x rext_psh hq) (gr_x (rext_tr pm.1 rext_psh) hwt) e
      | some v =>
        obtain ⟨lq, rfl, hlq⟩ := hl
        have hlL := gr_lt hO2 hlq
        have e : L = dFo (fun j v W => dAp (eC Nv Fn k) T i (cpS s) a (some v) (vit w j) W) (fun W v ch => if tqD (T (i + 1 + a)) = 47 then (W, .inr v) else dGa (cpS s) W (vm w + 1) ch (tqP (T i) : Int)) (vm w) 0 1 v (fun _ => v) (W - 3) := by
          rw [hL]
          show dTk (cpS s) W 3 (tqP (T i) : Int) _ = _
          rw [hdt]
          exact if_neg h39
        have hlt := gr_x hp0.1 hlq
        refine f_startB1 (w := w) hm (by omega) (by omega) hwL hwt.2.1 hgm.1 hlL e13 (by omega) ?_
        rw [e13]
        exact fold1_lp (w := w) (cw := 9) (cnt := vm w + 1) hm ha3 hA (by omega) hO2 hE hac hwL (by omega) h13 (fun _ _ _ => if_neg h47) (fun t z hz => hz) (vm w) 0 1 (W - 3) lq (pshS (takeS s 3) base (lq : Int)) v (fun _ => v) 9 (by omega) (by omega) (by omega) (by omega) (PM_psh hp0 e13) (fun i2 hi2 => by
            rw [show (s.1 13).toNat + i2 = base by omega]
            exact ⟨lq, psh_w, gr_x rext_psh hlt⟩) (gr_x rext_psh hlt) (gr_x rext_psh hwt) e
/-- an act with all its ADVERBS -/
theorem CAP_all (hm : pre.length = 102) (hRS : RSO) (hRT : RST2) (hRP : RPA) (hT : TKO T) (hi : tqS (T i) = 4 ∨ tqS (T i) = 5) (hC : CCL xt pre post Nv Fn k) : ∀ a, a ≤ 4 → (∀ j, j < a → tqS (T (i + 1 + j)) = 6) → CAP xt pre post Nv Fn x y T i k a := by
  intro a
  induction a with
  | zero => intro _ _; exact CAP_0 hm hRS hRT hRP hT hi hC
  | succ a ih => intro h4 h; exact CAP_s hm (by omega) (hT.1 _ (h a (by omega))) (ih (by omega) (fun j hj => h j (by omega)))
end folds
