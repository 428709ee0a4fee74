/-! the reference: line, all of it -/
theorem liS_n0 {T : Nat → Tok} (h : liS T ≠ 0) : tqS (T 0) = 3 ∨ tqS (T 0) = 4 := by
  by_cases z : tqS (T 0) = 3 ∨ tqS (T 0) = 4
  · exact z
  · exact absurd (if_neg z) h
theorem liS_le (T : Nat → Tok) : liS T ≤ 3 := by
  unfold liS
  split
  · split
    · split <;> omega
    · split <;> omega
  · omega
theorem liA_pl {T : Nat → Tok} {mk ln p : Nat} (hK : TOKS T mk ln) (h : liA T = .inl p) : p ≤ ln := by
  have hP : ∀ i, tqP (T i) ≤ ln := hK.2.2.2.2.2.2.2.2.1
  unfold liA at h
  by_cases z : liS T ≠ 0 ∧ (ownN T ∨ (liS T = 3 ∧ tqS (T 0) = 4))
  · rw [if_pos z] at h; injection h with h; rw [← h]; exact hP 0
  rw [if_neg z] at h
  by_cases y : liS T = 3
  · rw [if_pos y] at h
    rcases hj : pR T fuR 0 1 3 with q | j
    · rw [hj] at h; injection h with h; rw [← h]; exact pR_ln hK _ _ _ _ _ hj
    rw [hj] at h
    have h : (if isMk T j 41 then (if isMk T (j + 1) 58 then .inr (j + 2) else .inl (tqP (T (j + 1)))) else .inl (tqP (T j))) = (.inl p : Nat ⊕ Nat) := h
    by_cases x : isMk T j 41
    · rw [if_pos x] at h
      by_cases w : isMk T (j + 1) 58
      · rw [if_pos w] at h; cases h
      · rw [if_neg w] at h; injection h with h; rw [← h]; exact hP _
    · rw [if_neg x] at h; injection h with h; rw [← h]; exact hP _
  rw [if_neg y] at h
  by_cases x : liS T = 2
  · rw [if_pos x] at h; cases h
  rw [if_neg x] at h
  by_cases w : liS T = 1
  · rw [if_pos w] at h; cases h
  · rw [if_neg w] at h; cases h
theorem liE_pl {T : Nat → Tok} {mk ln p k : Nat} (hK : TOKS T mk ln) (h : liE T k = .inl p) : p ≤ ln := by
  unfold liE at h
  by_cases z : tqS (T k) = 0
  · rw [if_pos z] at h; cases h
  · rw [if_neg z] at h; injection h with h; rw [← h]; exact hK.2.2.2.2.2.2.2.2.1 _
theorem liX_pl {T : Nat → Tok} {mk ln p a : Nat} (hK : TOKS T mk ln) (h : liX T a = .inl p) : p ≤ ln := by
  unfold liX at h
  rcases hj : pR T fuR 0 (if liS T = 2 then 1 else 0) a with q | k
  · rw [hj] at h; injection h with h; rw [← h]; exact pR_ln hK _ _ _ _ _ hj
  rw [hj] at h
  have h : (if liS T = 2 then (if isMk T k 125 then liE T (k + 1) else .inl (tqP (T k))) else liE T k) = (.inl p : Nat ⊕ Nat) := h
  by_cases z : liS T = 2
  · rw [if_pos z] at h
    by_cases y : isMk T k 125
    · rw [if_pos y] at h; exact liE_pl hK h
    · rw [if_neg y] at h; injection h with h; rw [← h]; exact hK.2.2.2.2.2.2.2.2.1 _
  · rw [if_neg z] at h; exact liE_pl hK h
theorem liR_pl {T : Nat → Tok} {mk ln p : Nat} (hK : TOKS T mk ln) (h : liR T = .inl p) : p ≤ ln := by
  rcases hA : liA T with q | a
  · rw [liR_a hA] at h; injection h with h; rw [← h]; exact liA_pl hK hA
  rcases hX : liX T a with q | k
  · rw [liR_x hA hX] at h; injection h with h; rw [← h]; exact liX_pl hK hX
  · rw [liR_v hA hX] at h; cases h
/-- a line that can be read -/
theorem liR_in {T : Nat → Tok} {mk ln a : Nat} (hK : TOKS T mk ln) (h : liR T = .inr a) : a ≤ mk ∧ (liS T = 2 → a = 3 ∧ (∃ j, pR T fuR 0 1 3 = .inr j) ∧ 3 ≤ mk) ∧ (liS T ≠ 2 → (∃ j, pR T fuR 0 0 a = .inr j) ∧ (liS T = 3 → (∃ j, pR T fuR 0 1 3 = .inr j) ∧ 3 ≤ mk)) ∧ (liS T ≠ 0 → tqD (T 0) ≠ 24 ∧ tqD (T 0) ≠ 25) := by
  rcases hA : liA T with q | a'
  · rw [liR_a hA] at h; cases h
  rcases hX : liX T a' with q | k
  · rw [liR_x hA hX] at h; cases h
  rw [liR_v hA hX] at h
  have h : a' = a := by injection h
  subst h
  have hown : ¬ (liS T ≠ 0 ∧ (ownN T ∨ (liS T = 3 ∧ tqS (T 0) = 4))) := fun z => by
    unfold liA at hA; rw [if_pos z] at hA; cases hA
  have hA2 := hA
  unfold liA at hA2
  rw [if_neg hown] at hA2
  have hpx : ∃ j, pR T fuR 0 (if liS T = 2 then 1 else 0) a' = .inr j := by
    unfold liX at hX
    rcases hj : pR T fuR 0 (if liS T = 2 then 1 else 0) a' with q | j
    · rw [hj] at hX; cases hX
    · exact ⟨j, rfl⟩
  have ho4 : liS T ≠ 0 → tqD (T 0) ≠ 24 ∧ tqD (T 0) ≠ 25 := fun z => ⟨fun y => hown ⟨z, Or.inl (Or.inl y)⟩, fun y => hown ⟨z, Or.inl (Or.inr y)⟩⟩
  have hin : ∀ i, tqS (T i) = 7 → i < mk := fun i hi => TOKS_lt hK (by omega)
  by_cases h3 : liS T = 3
  · rw [if_pos h3] at hA2
    rw [if_neg (by omega)] at hpx
    have h2m : isMk T 2 40 := by
      unfold liS at h3
      by_cases z : tqS (T 0) = 3 ∨ tqS (T 0) = 4
      · rw [if_pos z] at h3
        by_cases y : isMk T 1 58
        · rw [if_pos y] at h3; split at h3 <;> omega
        · rw [if_neg y] at h3
          by_cases x : isAm T = true
          · unfold isAm at x
            rw [Bool.and_eq_true] at x
            exact (of_decide_eq_true x.1).2.2
          · rw [if_neg x] at h3; omega
      · rw [if_neg z] at h3; omega
    have hmk3 : 3 ≤ mk := by have := hin 2 h2m.1; omega
    rcases hj : pR T fuR 0 1 3 with q | j
    · rw [hj] at hA2; cases hA2
    rw [hj] at hA2
    have hA2 : (if isMk T j 41 then (if isMk T (j + 1) 58 then .inr (j + 2) else .inl (tqP (T (j + 1)))) else .inl (tqP (T j))) = (.inr a' : Nat ⊕ Nat) := hA2
    by_cases x : isMk T j 41
    · rw [if_pos x] at hA2
      by_cases w : isMk T (j + 1) 58
      · rw [if_pos w] at hA2
        have hA2 : j + 2 = a' := by injection hA2
        have := hin (j + 1) w.1
        exact ⟨by omega, fun z => by omega, fun _ => ⟨hpx, fun _ => ⟨⟨j, rfl⟩, hmk3⟩⟩, ho4⟩
      · rw [if_neg w] at hA2; cases hA2
    · rw [if_neg x] at hA2; cases hA2
  rw [if_neg h3] at hA2
  by_cases h2 : liS T = 2
  · rw [if_pos h2] at hA2 hpx
    have hA2 : 3 = a' := by injection hA2
    have h2m : isMk T 2 123 := by
      unfold liS at h2
      by_cases z : tqS (T 0) = 3 ∨ tqS (T 0) = 4
      · rw [if_pos z] at h2
        by_cases y : isMk T 1 58
        · rw [if_pos y] at h2
          by_cases x : isMk T 2 123
          · exact x
          · rw [if_neg x] at h2; omega
        · rw [if_neg y] at h2; split at h2 <;> omega
      · rw [if_neg z] at h2; omega
    have := hin 2 h2m.1
    rw [← hA2] at hpx
    exact ⟨by omega, fun _ => ⟨hA2.symm, hpx, by omega⟩, fun z => absurd h2 z, ho4⟩
  rw [if_neg h2] at hA2 hpx
  by_cases h1 : liS T = 1
  · rw [if_pos h1] at hA2
    have hA2 : 2 = a' := by injection hA2
    have h1m : isMk T 1 58 := by
      unfold liS at h1
      by_cases z : tqS (T 0) = 3 ∨ tqS (T 0) = 4
      · rw [if_pos z] at h1
        by_cases y : isMk T 1 58
        · exact y
        · rw [if_neg y] at h1; split at h1 <;> omega
      · rw [if_neg z] at h1; omega
    have := hin 1 h1m.1
    exact ⟨by omega, fun z => absurd z h2, fun _ => ⟨hpx, fun z => absurd z h3⟩, ho4⟩
  · rw [if_neg h1] at hA2
    have hA2 : 0 = a' := by injection hA2
    exact ⟨by omega, fun z => absurd z h2, fun _ => ⟨hpx, fun z => absurd z h3⟩, ho4⟩
theorem LOK_p {s u : RS} {W ln : Nat} (h : LOK s W ln) (hr : rlF (li0 s) u) : u.1 5 = 0 ∧ u.1 8 = (W : Int) ∧ u.1 10 = 0 := by
  obtain ⟨⟨a1, a2⟩, -⟩ := h
  obtain ⟨v33, v5, v6, v7, v10, v13⟩ := li0_v (s := s)
  have g5 := hr.2.2.1 5 (by omega)
  have g10 := hr.2.2.1 10 (by omega)
  have k8 := (hr.2.2.1 8 (by omega)).trans (li0_k (s := s) (k := 8) (by omega))
  exact ⟨by omega, by omega, by omega⟩
section line2
variable {xt : mj_X} {pre post : mj_H} {Nv : Int → Option VV} {Fn : Int → Option (Nat → Tok)}
theorem R_line {d W ln n m mk : Nat} {s : RS} {bf : Nat → Int} {F : Nat → Int → Bool} {T : Nat → Tok} (hm : pre.length = 102) (hRS : RSO) (hRT : RST2) (hRP : RPA) (hRA : RMA) (hAM : RAM) (hd : 1300 ≤ d) (hT : T = tkI bf ln F) (hK : TOKS T mk ln) (hTN : TN bf ln n m (li0 s)) (hRM : RM T ln (li0 s) 0) (hF0 : ∀ j, j ≤ 2 → FNp bf ln (F j) (beS (li0 s)) m) (hF1 : liS T ≠ 2 → ∀ j, FNp bf ln (F j) (beS (li0 s)) m) (hF2 : liS T = 2 → ¬ liW T → ∀ j, 3 ≤ j → FNp bf ln (F j) (teS (li0 s) (Int64.ofInt (tqR (T 0)))) m) (hTX : ∀ i, tqS (tkI bf ln F i) = 2 → ∀ k : Nat, (k : Int) < tqD (tkI bf ln F i) → tqP (tkI bf ln F i) + 1 + k < ln ∧ bf (tqP (tkI bf ln F i) + 1 + k) = tqX (tkI bf ln F i) k) (hL : LOK s W ln) (hN : RNC Nv Fn s n m) (hnm : n + m ≤ 40) (h33 : 0 ≤ s.1 33 ∧ s.1 33 ≤ 300) (hln : (ln : Int) ≤ s.1 33) : pgV xt d 202 [.ref 102, ii (ln : Int)] (rS pre post s) (RL2 pre post (lnP Nv Fn s T n m ln W)) := by
  have hTK : TKO T := by rw [hT]; exact tkI_TKO
  have hrd := r_read_ (xt := xt) (post := post) (d := d - 1) hm (by omega) hT hK hTN hRM hF0 hF1 hF2 hTX
  have hmk := hK.1
  have h50 := hL.2.2.2.1
  have hl200 := hL.2.2.2.2
  rcases hR : liR T with p | a
  · -- it can't be read
    have hP : p ≤ 300 := by
      have := liR_pl hK hR
      omega
    refine li_bad hm (by omega) h33 hln (Q1 := fun u => rlF (li0 s) u ∧ u.1 52 = (p : Int)) (pgN_i hrd (fun h' ⟨t, e1, e2, e3, e4, e5, e6⟩ => ?_)) (fun u hu => ?_) (fun u hu => ?_)
    · rw [hR] at e6; exact ⟨t, e1, e2, e6⟩
    · obtain ⟨v33, v5, v6, v7, v10, v13⟩ := li0_v (s := s)
      have g5 := hu.1.2.2.1 5 (by omega)
      have g10 := hu.1.2.2.1 10 (by omega)
      exact ⟨by omega, by omega, by omega, by omega⟩
    · obtain ⟨hr, h52⟩ := hu
      have hO := LOK_p hL hr
      unfold lnP
      rw [hR]
      refine ⟨rfl, ?_⟩
      have he := dqE_fl (e := 1) (nd := 0) (pl := u.1 52) (PM_rf hO.1 hO.2.1) (by omega) (by omega) (by omega)
      have hcp : cpS u = none := by unfold cpS; rw [if_neg (by have := hO.2.2; omega)]
      have := LN_err hL hr he
      rw [hcp, h52] at this
      rw [h52]
      exact this
  · -- what reading leaves
    obtain ⟨Q1, hQ1⟩ : ∃ Q1 : RS → Prop, Q1 = fun u => rlF (li0 s) u ∧ 2 * u.1 4 ≤ 2 * (li0 s).1 4 + (ln : Int) + 1 ∧ u.1 3 ≤ (li0 s).1 3 + (ln : Int) ∧ u.1 50 ≤ (li0 s).1 50 + 2 * (ln : Int) ∧ u.1 52 = -1 ∧ u.1 53 = ((liS T : Nat) : Int) ∧ (liS T ≠ 0 → u.2.1 56 = Int64.ofInt (tqR (T 0))) ∧ ∃ rt B : Nat, u.1 54 = (rt : Int) ∧ u.1 50 = (B : Int) ∧ (li0 s).1 50 ≤ (rt : Int) ∧ rt < B ∧ rR u T fuR 0 (if liS T = 2 then 1 else 0) a B rt (-1) ∧ (liS T = 3 → u.1 57 = (tqP (T 1) : Int) ∧ ∃ sp : Nat, u.1 55 = (sp : Int) ∧ sp < B ∧ rR u T fuR 0 1 3 B sp (-1)) := ⟨_, rfl⟩
    have hrq : pgN xt (d - 1) 203 [.ref 102, ii (ln : Int)] (rS pre post (li0 s)) (fun h' => ∃ u, h' = rS pre post u ∧ Q1 u) := pgN_i hrd (fun h' ⟨t, e1, e2, e3, e4, e5, e6⟩ => by
      rw [hR] at e6
      rw [hQ1]
      exact ⟨t, e1, e2, e6.1, e4, e5, e6.2⟩)
    have q52 : ∀ u, Q1 u → u.1 52 = -1 := fun u hu => by rw [hQ1] at hu; exact hu.2.2.2.2.1
    have hla := liR_in hK hR
    have k50 := li0_k (s := s) (k := 50) (by omega)
    -- the name's place
    have hp0 : ∀ u, Q1 u → liS T ≠ 0 → tqP (T 0) < 220 ∧ (∀ k, k < tqP (T 0) → u.2.2.1 32 k = 32) ∧ (u.2.2.1 32 (tqP (T 0)) ≠ 32 ∧ -128 ≤ u.2.2.1 32 (tqP (T 0)) ∧ u.2.2.1 32 (tqP (T 0)) ≤ 127) := fun u hu h0 => by
      rw [hQ1] at hu
      have e32 : u.2.2.1 32 = s.2.2.1 32 := hu.1.2.2.2.2.1 32 (by omega)
      rw [e32]
      have z := tk_p0 (bf := bf) (ln := ln) (F := F) (by rw [← hT]; exact liS_n0 h0)
      rw [← hT] at z
      obtain ⟨-, b1, b2, -⟩ := hTN
      have b1 : ∀ j : Nat, -128 ≤ s.2.2.1 32 j ∧ s.2.2.1 32 j ≤ 127 := b1
      have b2 : ∀ j : Nat, s.2.2.1 32 j % 256 = bf j := b2
      refine ⟨by omega, fun k hk => ?_, fun q => z.2.2 ?_, b1 _⟩
      · have e1 := z.2.1 k hk
        have e2 := b2 k
        have e3 := b1 k
        omega
      · rw [← b2, q]; decide
    have e1920 : ∀ u, Q1 u → u.2.2.2 19 = s.2.2.2 19 ∧ u.2.2.2 20 = s.2.2.2 20 ∧ u.1 23 = (n : Int) ∧ u.1 24 = (m : Int) := fun u hu => by
      rw [hQ1] at hu
      have z := (LM_rl hu.1).2.1
      exact ⟨z.2.2.2.2.1, z.2.2.2.2.2, z.1.trans hN.1, z.2.1.trans hN.2.1⟩
    have hO : ∀ u, Q1 u → DOK u W 10 7700 := fun u hu => by rw [hQ1] at hu; exact LOK_D hL hu.1 hu.2.1 hu.2.2.1
    have hEN : ∀ u, Q1 u → ENR Nv Fn none none 10 u := fun u hu => by
      rw [hQ1] at hu
      have z := LM_rl hu.1
      exact ⟨RNC_V hN z.1 z.2.1 (by omega), fun _ => ⟨rfl, rfl⟩, fun z => absurd rfl z⟩
    have hcp : ∀ u, Q1 u → cpS u = none := fun u hu => by
      unfold cpS
      rw [if_neg (by have := (hO u hu).2.2.1.2; omega)]
    have h53 : ∀ u, Q1 u → u.1 53 = ((liS T : Nat) : Int) := fun u hu => by rw [hQ1] at hu; exact hu.2.2.2.2.2.1
    have h56 : ∀ u, Q1 u → liS T ≠ 0 → u.2.1 56 = Int64.ofInt (tqR (T 0)) := fun u hu => by rw [hQ1] at hu; exact hu.2.2.2.2.2.2.1
    by_cases hF : lnF s T n m
    · -- one name more
      obtain ⟨f1, f2, f3⟩ := hF
      refine li_err hm (by omega) h33 hln hrq q52 (Q2 := fun t => ∃ u, Q1 u ∧ t = failS u 8 ((tqP (T 0) : Nat) : Int)) (fun u hu => ?_) (fun t ht => ?_) (fun t ht => ?_)
      · obtain ⟨z1, z2, z3⟩ := hp0 u hu (by omega)
        obtain ⟨g1, g2, g3, g4⟩ := e1920 u hu
        have g5 := h53 u hu
        obtain ⟨-, o5, -⟩ := hO u hu
        obtain ⟨-, -, -, -, -, -, -, -, -, -, hca⟩ := DOK_nat (hO u hu)
        exact do_full hm (by omega) (by omega) o5 (by omega) g3 g4 hN.2.2.1 hN.2.2.2.1 (by rw [h56 u hu (by omega), g1, g2]; exact f2) f3 z1 z2 z3 ⟨u, hu, rfl⟩
      · obtain ⟨u, hu, rfl⟩ := ht
        rw [failS_5]; decide
      · obtain ⟨u, hu, rfl⟩ := ht
        unfold lnP
        rw [hR, failS_5]
        refine Or.inl ⟨⟨f1, f2, f3⟩, rfl, ?_⟩
        have he := dqE_fl (e := 8) (nd := 0) (pl := ((tqP (T 0) : Nat) : Int)) (DOK_rf (hO u hu)) (by omega) (by omega) (by omega)
        rw [hcp u hu] at he
        rw [hQ1] at hu
        exact LN_err hL hu.1 he
    · by_cases h2 : liS T = 2
      · -- a function
        have hla2 := hla.2.1 h2
        obtain ⟨j3, hj3⟩ := hla2.2.1
        have hkn : (0 ≤ fndR (s.2.2.2 19) n (Int64.ofInt (tqR (T 0))) ∨ 0 ≤ fndR (s.2.2.2 20) m (Int64.ofInt (tqR (T 0)))) ∨ n + m ≠ 40 := by
          by_cases z : 0 ≤ fndR (s.2.2.2 19) n (Int64.ofInt (tqR (T 0))) ∨ 0 ≤ fndR (s.2.2.2 20) m (Int64.ofInt (tqR (T 0)))
          · exact Or.inl z
          · exact Or.inr (fun y => hF ⟨Or.inr h2, z, y⟩)
        have hfk : fndK (s.2.2.2 20) m (Int64.ofInt (tqR (T 0))) < 40 := by
          have c1 := fndR_c (s.2.2.2 20) m (Int64.ofInt (tqR (T 0)))
          have c2 := fndR_c (s.2.2.2 19) n (Int64.ofInt (tqR (T 0)))
          omega
        refine li_tell hm (by omega) h33 hln hrq q52 (Q2 := fun t => ∃ u, Q1 u ∧ t = nameS u 20 22 24 19 21 23 m n (u.2.1 56) (u.1 54)) (fun u hu => ?_) (fun t ht => ?_) (fun t ht => ?_)
        · obtain ⟨g1, g2, g3, g4⟩ := e1920 u hu
          have g5 := h53 u hu
          refine do_tell hm (by omega) (by omega) g3 g4 hN.2.2.1 hN.2.2.2.1 ?_ ?_ ⟨u, hu, rfl⟩
          · rw [h56 u hu (by omega), g1, g2]; exact hkn
          · rw [h56 u hu (by omega), g2]; exact hfk
        · obtain ⟨u, hu, rfl⟩ := ht
          rw [nS_i (by decide) (by decide), nS_i (by decide) (by decide)]
          have g5 := h53 u hu
          exact ⟨(hO u hu).2.1, by omega⟩
        · obtain ⟨u, hu, rfl⟩ := ht
          have h56u := h56 u hu (by omega)
          rw [hQ1] at hu
          obtain ⟨u1, u2, u3, u4, u5, u6, u7, rt, B, u8, u9, u10, u11, u12, u13⟩ := hu
          unfold lnP
          rw [hR]
          refine Or.inr (Or.inl ⟨hF, h2, rfl, ?_⟩)
          rw [if_pos h2, hla2.1] at u12
          exact LN_t h2 hL u1 u2 u3 u4 h56u hK hTK hla2.2.2 hj3 u8 u9 u11 u12
      · -- a value
        have hla3 := hla.2.2.1 h2
        obtain ⟨j0, hj0⟩ := hla3.1
        have hjm := pR_mk hK fuR 0 0 a j0 hla.1 hj0
        have hkn : liS T = 1 → (0 ≤ fndR (s.2.2.2 19) n (Int64.ofInt (tqR (T 0))) ∨ 0 ≤ fndR (s.2.2.2 20) m (Int64.ofInt (tqR (T 0)))) ∨ n + m ≠ 40 := fun h1 => by
          by_cases z : 0 ≤ fndR (s.2.2.2 19) n (Int64.ofInt (tqR (T 0))) ∨ 0 ≤ fndR (s.2.2.2 20) m (Int64.ofInt (tqR (T 0)))
          · exact Or.inl z
          · exact Or.inr (fun y => hF ⟨Or.inl h1, z, y⟩)
        have hwo : ∀ u, Q1 u → pgV xt (d - 1 - 1) 239 [.ref 102, ii (u.1 54)] (rS pre post u) (RA pre post (GQ (dq u W 0 ((7700 : Nat) : Int) (eE (eC Nv Fn 10) T Nv none none none fuR 0 0 a zB W)))) := fun u hu => by
          have hOu := hO u hu
          have hEu := hEN u hu
          have hcu := hcp u hu
          have hu2 := hu
          rw [hQ1] at hu2
          obtain ⟨u1, u2, u3, u4, u5, u6, u7, rt, B, u8, u9, u10, u11, u12, u13⟩ := hu2
          rw [if_neg h2] at u12
          have := R_worth (xt := xt) (post := post) (d := d - 1 - 1) hm hRS hRT hRP hK hTK hla.1 hj0 (by decide) (by omega) (DOK_n hOu (by omega)) hEu (B := B) (by omega) u11 u12
          rw [hcu] at this
          rw [u8]
          exact pgV_g (pgV_i this (fun v h' z => RA_mono z (fun t z hz => dq_w hz (Int.le_refl _) (by omega))))
        have dq_f : ∀ {u t : RS} {z : Int} {W1 W2 : Nat} {c nd : Int} {r : DR}, dq u W1 c nd r t z → dfr u t := fun {u t z W1 W2 c nd r} hz => by
          obtain ⟨W', ⟨e, pl⟩ | v⟩ := r
          · exact hz.2.1
          · exact hz.1.2.1
        have d53 : ∀ {u t : RS} {z : Int} {W1 : Nat} {c nd : Int} {r : DR}, dq u W1 c nd r t z → t.1 53 = u.1 53 := fun hz => dfr_i (dq_f (W2 := 0) hz) (by omega)
        have names : ∀ u t, Q1 u → dfr u t → t.1 23 = (n : Int) ∧ t.1 24 = (m : Int) ∧ t.2.2.2 19 = s.2.2.2 19 ∧ t.2.1 56 = u.2.1 56 := fun u t hu hf => by
          obtain ⟨g1, g2, g3, g4⟩ := e1920 u hu
          exact ⟨(dfr_i hf (by omega)).trans g3, (dfr_i hf (by omega)).trans g4, (hf.2.2.2.2.1 19 (by decide)).trans g1, by rw [hf.2.2.1]⟩
        have hdd : lnD Nv Fn T a W = (if liS T = 3 then dB (eE (eC Nv Fn 10) T Nv none none none fuR 0 0 a zB W) (fun W u => dA2 Nv Fn T W u) else eE (eC Nv Fn 10) T Nv none none none fuR 0 0 a zB W) := rfl
        have mem : ∀ t z, (match lnD Nv Fn T a W with
            | (W', .inl (e, pl)) => z = -(e : Int) ∧ LNE s t W W' e pl
            | (W', .inr v) => z = 0 ∧ LNV s t T n m ln W W' v) → lnP Nv Fn s T n m ln W t z := fun t z hz => by
          unfold lnP
          rw [hR]
          exact Or.inr (Or.inr ⟨hF, h2, hz⟩)
        have fin_e : ∀ u t e pl W', lnD Nv Fn T a W = (W', .inl (e, pl)) → Q1 u → dqE u W ((7700 : Nat) : Int) W' e pl t → lnP Nv Fn s T n m ln W (liE1 s t) (-(t.1 5)) := fun u t e pl W' hs hu he => mem _ _ (by
          rw [hs]
          rw [hQ1] at hu
          refine ⟨?_, LN_err hL hu.1 he⟩
          rw [he.2.2.2.2.1])
        have hfk : ∀ u t, Q1 u → dfr u t → liS T = 1 → t.1 23 = (n : Int) ∧ t.1 24 = (m : Int) ∧ fndK (t.2.2.2 19) n (t.2.1 56) < 40 := fun u t hu hf h1 => by
          obtain ⟨g1, g2, g3, g4⟩ := names u t hu hf
          refine ⟨g1, g2, ?_⟩
          rw [g3, g4, h56 u hu (by omega)]
          have c1 := fndR_c (s.2.2.2 20) m (Int64.ofInt (tqR (T 0)))
          have c2 := fndR_c (s.2.2.2 19) n (Int64.ofInt (tqR (T 0)))
          have c3 := hkn h1
          omega
        have hS3 := liS_le T
        rcases hs : eE (eC Nv Fn 10) T Nv none none none fuR 0 0 a zB W with ⟨W1, ⟨e, pl⟩ | v⟩
        · have hsd : lnD Nv Fn T a W = (W1, .inl (e, pl)) := by
            rw [hdd, hs]
            split <;> rfl
          refine li_err hm (by omega) h33 hln hrq q52 (Q2 := fun t => ∃ u, Q1 u ∧ dqE u W ((7700 : Nat) : Int) W1 e pl t) (fun u hu => ?_) (fun t ht => ?_) (fun t ht => ?_)
          · have hw := hwo u hu
            rw [hs] at hw
            have a53 : ∀ t z, GQ (dq u W 0 ((7700 : Nat) : Int) (W1, .inl (e, pl))) t z → t.1 53 = u.1 53 := fun t z hz => d53 hz.2.2
            have a5 : ∀ t z, GQ (dq u W 0 ((7700 : Nat) : Int) (W1, .inl (e, pl))) t z → 0 < t.1 5 := fun t z hz => by
              have e5 : t.1 5 = (e : Int) := hz.2.2.2.2.2.2.1
              have e7 : 1 ≤ e ∧ e ≤ 100 := hz.2.2.2.2.2.2.2.2.1
              omega
            have u53 := h53 u hu
            obtain ⟨g1, g2, g3, g4⟩ := e1920 u hu
            have fq : ∀ t z, GQ (dq u W 0 ((7700 : Nat) : Int) (W1, .inl (e, pl))) t z → ∃ u, Q1 u ∧ dqE u W ((7700 : Nat) : Int) W1 e pl t := fun t z hz => ⟨u, hu, hz.2.2⟩
            by_cases s0 : liS T = 0
            · exact do_e0 hm (by omega) (by omega) hw a53 a5 fq
            by_cases s1 : liS T = 1
            · exact do_e1 hm (by omega) g3 g4 hN.2.2.1 hN.2.2.2.1 (by omega) (by rw [h56 u hu (by omega), g1, g2]; exact hkn s1) hw a53 a5 fq
            · exact do_e3 hm (by omega) (by omega) hw a53 a5 fq
          · obtain ⟨u, hu, he⟩ := ht
            have e5 := he.2.2.2.2.1
            have e7 := he.2.2.2.2.2.2.1
            omega
          · obtain ⟨u, hu, he⟩ := ht
            exact fin_e u t e pl W1 hsd hu he
        · by_cases s3 : liS T = 3
          · -- AMENDED
            have hla4 := hla3.2 s3
            obtain ⟨j3, hj3⟩ := hla4.1
            have hj3m := pR_mk hK fuR 0 1 3 j3 hla4.2 hj3
            have ham : ∀ u t z, Q1 u → GQ (dq u W 0 ((7700 : Nat) : Int) (W1, .inr v)) t z → pgV xt (d - 1 - 1) 300 [.ref 102, ii z] (rS pre post t) (RA pre post (GQ (dq u W 0 ((7700 : Nat) : Int) (dA2 Nv Fn T W1 v)))) := fun u t z hu hz => by
              obtain ⟨-, -, hz, q, rfl, hg⟩ := hz
              have hOt : DOK t W1 10 7700 := DOK_j (hO u hu) hz (by omega) (by omega)
              have hEt := ENR_x hz.1 hz.2.1 (hEN u hu)
              obtain ⟨z1, z2, z3⟩ := hp0 u hu (by omega)
              have e56 : t.2.1 56 = Int64.ofInt (tqR (T 0)) := by rw [hz.2.1.2.2.1]; exact h56 u hu (by omega)
              have a32 : t.2.2.1 32 = u.2.2.1 32 := dfr_a hz.2.1 (by decide)
              have hu2 := hu
              rw [hQ1] at hu2
              obtain ⟨u1, u2, u3, u4, u5, u6, u7, rt, B, u8, u9, u10, u11, u12, u13⟩ := hu2
              obtain ⟨w1, sp, w2, w3, w4⟩ := u13 s3
              have := R_amends (xt := xt) (post := post) (d := d - 1 - 1) (Nv := Nv) (Fn := Fn) (T := T) (mk := mk) (ln := ln) (B := B) hm hRS hRT hRP hRA hAM (by omega) hK hTK hOt hEt hg e56 (liS_n0 (by omega)) (hla.2.2.2 (by omega)) ((dfr_i hz.2.1 (by omega)).trans w2) (by omega) w3 (rR_k _ _ _ _ _ _ _ _ _ _ (ndK_df hz.1 hz.2.1 B) (Nat.le_refl _) w4) hla4.2 hj3 ((dfr_i hz.2.1 (by omega)).trans w1) (by omega) z1 (fun k hk => by rw [a32]; exact z2 k hk) (by rw [a32]; exact z3)
              exact pgV_g (pgV_i this (fun v h' z => RA_mono z (fun t2 z2 h2 => dq_tr hz h2 (Int.le_refl _) (by omega))))
            have hsd0 : lnD Nv Fn T a W = dA2 Nv Fn T W1 v := by
              rw [hdd, if_pos s3, dBv hs]
            have a53 : ∀ u t z, GQ (dq u W 0 ((7700 : Nat) : Int) (W1, .inr v)) t z → t.1 53 = u.1 53 := fun u t z hz => d53 hz.2.2
            have a5 : ∀ u t z, GQ (dq u W 0 ((7700 : Nat) : Int) (W1, .inr v)) t z → t.1 5 = 0 := fun u t z hz => hz.2.2.1.2.2.1
            have b53 : ∀ u t z, GQ (dq u W 0 ((7700 : Nat) : Int) (dA2 Nv Fn T W1 v)) t z → t.1 53 = u.1 53 := fun u t z hz => d53 hz.2.2
            rcases hs2 : dA2 Nv Fn T W1 v with ⟨W2, ⟨e, pl⟩ | v2⟩
            · have hsd := hsd0.trans hs2
              refine li_err hm (by omega) h33 hln hrq q52 (Q2 := fun t => ∃ u, Q1 u ∧ dqE u W ((7700 : Nat) : Int) W2 e pl t) (fun u hu => ?_) (fun t ht => ?_) (fun t ht => ?_)
              · have hw := hwo u hu
                rw [hs] at hw
                have u53 := h53 u hu
                have ham := ham u
                have b53 := b53 u
                rw [hs2] at ham b53
                exact do_a3e hm (by omega) (by omega) hw (a53 u) (fun t z hz => ham t z hu hz) (a5 u) b53 (fun t z hz => by
                  have e5 : t.1 5 = (e : Int) := hz.2.2.2.2.2.2.1
                  have e7 : 1 ≤ e ∧ e ≤ 100 := hz.2.2.2.2.2.2.2.2.1
                  omega) (fun t z hz => ⟨u, hu, hz.2.2⟩)
              · obtain ⟨u, hu, he⟩ := ht
                have e5 := he.2.2.2.2.1
                have e7 := he.2.2.2.2.2.2.1
                omega
              · obtain ⟨u, hu, he⟩ := ht
                exact fin_e u t e pl W2 hsd hu he
            · have hsd := hsd0.trans hs2
              have hfound : fndK (s.2.2.2 19) n (Int64.ofInt (tqR (T 0))) < n := by
                rcases hN.2.2.2.2.1 (tqD (T 0)) (tqR (T 0)) (hTK.2.2 0 (liS_n0 (by omega))) with ⟨z1, z2⟩ | ⟨z1, -⟩
                · exfalso
                  unfold dA2 at hs2
                  rcases hs3 : eE (eC Nv Fn 10) T Nv none none none fuR 0 1 3 zB W1 with ⟨W3, ⟨e, pl⟩ | w⟩
                  · rw [dBe hs3] at hs2; injection hs2 with _ y; cases y
                  · have ho := hla.2.2.2 (by omega)
                    rw [dBv hs3, dNm_o, if_neg ho.1, if_neg ho.2, z2] at hs2
                    injection hs2 with _ y; cases y
                · exact z1
              refine li_val hm (by omega) h33 hln hrq q52 (Q2 := fun t' => ∃ u t q, Q1 u ∧ PM u W 0 t W2 0 ∧ gr t q v2 ∧ t' = fiS (nameS t 19 21 23 20 22 24 n m (t.2.1 56) (q : Int)) 30 (q : Int)) (fun u hu => ?_) (fun t' ht => ?_) (fun t' ht => ?_)
              · have hw := hwo u hu
                rw [hs] at hw
                have u53 := h53 u hu
                have ham := ham u
                have b53 := b53 u
                rw [hs2] at ham b53
                exact do_a3v hm (by omega) (by omega) hN.2.2.1 hN.2.2.2.1 hw (a53 u) (fun t z hz => ham t z hu hz) (a5 u) b53 (fun t z hz => hz.2.2.1.2.2.1) (fun t z hz => by
                  obtain ⟨g1, g2, g3, g4⟩ := names u t hu hz.2.2.1.2.1
                  refine ⟨g1, g2, ?_⟩
                  rw [g3, g4, h56 u hu (by omega)]
                  have := hN.2.2.1
                  omega) (fun t z hz => by
                  obtain ⟨-, -, hz, q, rfl, hg⟩ := hz
                  exact ⟨u, t, q, hu, hz, hg, rfl⟩)
              · obtain ⟨u, t, q, hu, hp, hg, rfl⟩ := ht
                have u53 := h53 u hu
                have t53 := dfr_i hp.2.1 (k := 53) (by omega)
                rw [fi_k (by decide), fi_k (by decide), nS_i (by decide) (by decide), nS_i (by decide) (by decide)]
                exact ⟨hp.2.2.1, by omega, by omega⟩
              · obtain ⟨u, t, q, hu, hp, hg, rfl⟩ := ht
                have e56 : t.2.1 56 = Int64.ofInt (tqR (T 0)) := by rw [hp.2.1.2.2.1]; exact h56 u hu (by omega)
                rw [hQ1] at hu
                refine mem _ _ ?_
                rw [hsd]
                exact ⟨rfl, LN_v1 (by omega) hL hu.1 hu.2.1 hu.2.2.1 hp hg e56⟩
          · have hsd : lnD Nv Fn T a W = (W1, .inr v) := by rw [hdd, if_neg s3]; exact hs
            by_cases s0 : liS T = 0
            · refine li_val hm (by omega) h33 hln hrq q52 (Q2 := fun t' => ∃ u t q, Q1 u ∧ PM u W 0 t W1 0 ∧ gr t q v ∧ t' = fiS t 30 (q : Int)) (fun u hu => ?_) (fun t' ht => ?_) (fun t' ht => ?_)
              · have hw := hwo u hu
                rw [hs] at hw
                have u53 := h53 u hu
                exact do_v0 hm (by omega) (by omega) hw (fun t z hz => d53 hz.2.2) (fun t z hz => hz.2.2.1.2.2.1) (fun t z hz => by
                  obtain ⟨-, -, hz, q, rfl, hg⟩ := hz
                  exact ⟨u, t, q, hu, hz, hg, rfl⟩)
              · obtain ⟨u, t, q, hu, hp, hg, rfl⟩ := ht
                have u53 := h53 u hu
                have t53 := dfr_i hp.2.1 (k := 53) (by omega)
                rw [fi_k (by decide), fi_k (by decide)]
                exact ⟨hp.2.2.1, by omega, by omega⟩
              · obtain ⟨u, t, q, hu, hp, hg, rfl⟩ := ht
                rw [hQ1] at hu
                refine mem _ _ ?_
                rw [hsd]
                exact ⟨rfl, LN_v0 s0 hL hu.1 hu.2.1 hu.2.2.1 hp hg⟩
            · have s1 : liS T = 1 := by omega
              refine li_val hm (by omega) h33 hln hrq q52 (Q2 := fun t' => ∃ u t q, Q1 u ∧ PM u W 0 t W1 0 ∧ gr t q v ∧ t' = fiS (nameS t 19 21 23 20 22 24 n m (t.2.1 56) (q : Int)) 30 (q : Int)) (fun u hu => ?_) (fun t' ht => ?_) (fun t' ht => ?_)
              · have hw := hwo u hu
                rw [hs] at hw
                have u53 := h53 u hu
                obtain ⟨g1, g2, g3, g4⟩ := e1920 u hu
                exact do_v1 hm (by omega) g3 g4 hN.2.2.1 hN.2.2.2.1 (by omega) (by rw [h56 u hu (by omega), g1, g2]; exact hkn s1) hw (fun t z hz => d53 hz.2.2) (fun t z hz => hz.2.2.1.2.2.1) (fun t z hz => hfk u t hu hz.2.2.1.2.1 s1) (fun t z hz => by
                  obtain ⟨-, -, hz, q, rfl, hg⟩ := hz
                  exact ⟨u, t, q, hu, hz, hg, rfl⟩)
              · obtain ⟨u, t, q, hu, hp, hg, rfl⟩ := ht
                have u53 := h53 u hu
                have t53 := dfr_i hp.2.1 (k := 53) (by omega)
                rw [fi_k (by decide), fi_k (by decide), nS_i (by decide) (by decide), nS_i (by decide) (by decide)]
                exact ⟨hp.2.2.1, by omega, by omega⟩
              · obtain ⟨u, t, q, hu, hp, hg, rfl⟩ := ht
                have e56 : t.2.1 56 = Int64.ofInt (tqR (T 0)) := by rw [hp.2.1.2.2.1]; exact h56 u hu (by omega)
                rw [hQ1] at hu
                refine mem _ _ ?_
                rw [hsd]
                exact ⟨rfl, LN_v1 (by omega) hL hu.1 hu.2.1 hu.2.2.1 hp hg e56⟩
end line2
