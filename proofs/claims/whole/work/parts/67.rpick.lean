/-- how many cells, and how many values, an act may have made: no more than its answer needs, where it has one -/
def rcb (o : Nat ⊕ VV) (cb : Nat) : Nat := match o with
  | .inl _ => cb
  | .inr w => min cb (vcl w)
def rvb (o : Nat ⊕ VV) (vb : Nat) : Nat := match o with
  | .inl _ => vb
  | .inr w => if vk w = 7 then vb else min vb 1
theorem rcb_le {o : Nat ⊕ VV} {cb : Nat} : rcb o cb ≤ cb := by
  cases o with
  | inl n => exact Nat.le_refl _
  | inr w => exact Nat.min_le_left _ _
theorem rvb_le {o : Nat ⊕ VV} {vb : Nat} : rvb o vb ≤ vb := by
  cases o with
  | inl n => exact Nat.le_refl _
  | inr w => show (if vk w = 7 then vb else min vb 1) ≤ vb; split <;> omega
theorem rcb_up {o : Nat ⊕ VV} {a b : Nat} (h : a ≤ b) : rcb o a ≤ rcb o b := by
  cases o with
  | inl n => exact h
  | inr w => show min a (vcl w) ≤ min b (vcl w); omega
theorem rvb_up {o : Nat ⊕ VV} {a b : Nat} (h : a ≤ b) : rvb o a ≤ rvb o b := by
  cases o with
  | inl n => exact h
  | inr w => show (if vk w = 7 then a else min a 1) ≤ (if vk w = 7 then b else min b 1); split <;> omega
theorem rcb_ge {w : VV} {n cb : Nat} (h1 : n ≤ cb) (h2 : n ≤ vcl w) : n ≤ rcb (.inr w) cb := by
  show n ≤ min cb (vcl w); omega
theorem rvb_ge {o : Nat ⊕ VV} {vb : Nat} (h : 1 ≤ vb) : 1 ≤ rvb o vb := by
  cases o with
  | inl n => exact h
  | inr w => show 1 ≤ (if vk w = 7 then vb else min vb 1); split <;> omega
theorem rcb_w {a b : Int} {o : Nat ⊕ VV} {cb : Nat} (h : a ≤ b + ((rcb o cb : Nat) : Int)) : a ≤ b + (cb : Int) := by have := rcb_le (o := o) (cb := cb); omega
theorem rvb_w {a b : Int} {o : Nat ⊕ VV} {cb : Nat} (h : a ≤ b + ((rvb o cb : Nat) : Int)) : a ≤ b + (cb : Int) := by have := rvb_le (o := o) (vb := cb); omega
theorem rcb_v {v w : VV} {cb : Nat} (h1 : vk v = vk w) (h2 : vm v = vm w) (h3 : vc v = vc w) : rcb (.inr v) cb = rcb (.inr w) cb := by
  show min cb (vcl v) = min cb (vcl w); unfold vcl vq; rw [h1, h2, h3]
theorem rvb_v {v w : VV} {vb : Nat} (h1 : vk v = vk w) : rvb (.inr v) vb = rvb (.inr w) vb := by
  show (if vk v = 7 then vb else min vb 1) = (if vk w = 7 then vb else min vb 1); rw [h1]
/-- what an act of the reference makes: an error or a value -/
def rres (pre post : mj_H) (s : RS) (e : Nat) (o : Nat ⊕ VV) (place : Int) (cb vb : Nat) (x : Value) (h' : mj_H) : Prop := ∃ s1, h' = rS pre post s1 ∧ rext s s1 ∧ rfr s s1 ∧ s1.1 3 ≤ s.1 3 + ((rcb o cb : Nat) : Int) ∧ s1.1 4 ≤ s.1 4 + ((rvb o vb : Nat) : Int) ∧ (match o with
  | .inl n => x = ii (-1) ∧ s1.1 5 = (n : Int) ∧ s1.1 6 = (if 0 < s.1 10 then s.1 11 else place)
  | .inr w => s1.1 5 = 0 ∧ s1.1 6 = s.1 6 ∧ ∃ q : Nat, 3 ≤ q ∧ x = ii (q : Int) ∧ rv s1 e q w)
theorem fill_0 {pre post : mj_H} (T : RS) (b : Nat) (g : Nat → Int64) : rS pre post T = rS pre post (fillS T b 0 g) := by
  unfold fillS
  rw [fb_0]
  show rI _ _ _ _ _ _ = rI _ _ _ _ _ _
  congr 1
  funext j
  show T.2.2.2 j = if j = 0 then T.2.2.2 0 else T.2.2.2 j
  by_cases h : j = 0
  · rw [if_pos h, h]
  · rw [if_neg h]
theorem fill_s {pre post : mj_H} (T : RS) (b k : Nat) (g : Nat → Int64) : rI pre post (fillS T b k g).1 (fillS T b k g).2.1 (fillS T b k g).2.2.1 (va_up (fillS T b k g).2.2.2 0 (va_up ((fillS T b k g).2.2.2 0) (b + k) (g k))) = rS pre post (fillS T b (k + 1) g) := by
  show rI pre post T.1 T.2.1 T.2.2.1 (va_up (va_up T.2.2.2 0 (fb b k g (T.2.2.2 0))) 0 (va_up (va_up T.2.2.2 0 (fb b k g (T.2.2.2 0)) 0) (b + k) (g k))) = rI pre post T.1 T.2.1 T.2.2.1 (va_up T.2.2.2 0 (fb b (k + 1) g (T.2.2.2 0)))
  rw [up_up, up_eq, fb_s]
theorem fill_at {T : RS} {b n k : Nat} {g : Nat → Int64} (h : k < n) : (fillS T b n g).2.2.2 0 (b + k) = g k := by
  show va_up T.2.2.2 0 (fb b n g (T.2.2.2 0)) 0 (b + k) = g k
  rw [up_eq, fb_at _ _ h]
/-- a row that has been filled -/
theorem rres_row {pre post : mj_H} {s : RS} {e q b n kind : Nat} {g : Nat → Int64} {place : Int} {w : VV} {cb vb : Nat} (hq : s.1 4 = (q : Int)) (hq3 : 3 ≤ q) (hb : s.1 3 = (b : Int)) (he : s.1 5 = 0) (hw : vw1 w) (h7 : vk w ≠ 7) (h6 : vk w ≠ 6) (hk : vk w = kind) (hm : vm w = n) (hc : vc w = 0) (hf : ∀ k, k < n → g k = vn w k) (hcb : n ≤ cb) (hvb : 1 ≤ vb) : rres pre post s (e + 1) (.inr w) place cb vb (ii (q : Int)) (rS pre post (fillS (rowS s q b (kind : Int) (n : Int)) b n g)) := by
  have hqw : vq w = n := by unfold vq; rw [if_neg h6, if_neg h7]; exact hm
  have hr1 : n ≤ rcb (.inr w) cb := rcb_ge hcb (by unfold vcl; rw [if_neg h7]; omega)
  have hr2 := rvb_ge (o := .inr w) hvb
  refine ⟨_, rfl, rext_fill (rext_row hq hb _ (by omega)) (by omega) g, rfr_tr (rfr_row s q b _ _) (rfr_fill _ b n g), ?_, ?_, he, rfl, q, hq3, rfl, ?_⟩
  · show (b : Int) + (n : Int) ≤ s.1 3 + ((rcb (.inr w) cb : Nat) : Int); omega
  · show (q : Int) + 1 ≤ s.1 4 + ((rvb (.inr w) vb : Nat) : Int); omega
  · refine rv_flat (fr := b) hw h7 ?_ ?_ ?_ ?_ (fun k hk2 => ?_)
    · show (q : Int) < (q : Int) + 1; omega
    · show va_up (s.2.2.1 1) q _ q = _; rw [up_eq]
    · show va_up (s.2.2.1 2) q _ q = _; rw [up_eq, hk, hm, hc]; omega
    · show (b : Int) + (vq w : Int) ≤ (b : Int) + (n : Int); omega
    · rw [fill_at (by omega), hf k (by omega)]
theorem rres_tab {pre post : mj_H} {s : RS} {e q b r c : Nat} {g : Nat → Int64} {place : Int} {w : VV} {cb vb : Nat} (hq : s.1 4 = (q : Int)) (hq3 : 3 ≤ q) (hb : s.1 3 = (b : Int)) (he : s.1 5 = 0) (hw : vw1 w) (hk : vk w = 6) (hm : vm w = r) (hc : vc w = c) (hf : ∀ k, k < r * c → g k = vn w k) (hcb : r * c ≤ cb) (hvb : 1 ≤ vb) : rres pre post s (e + 1) (.inr w) place cb vb (ii (q : Int)) (rS pre post (fillS (tabS s q b (r : Int) (c : Int)) b (r * c) g)) := by
  have hqw : vq w = r * c := by unfold vq; rw [if_pos hk, hm, hc]
  have hrc : (r : Int) * (c : Int) = ((r * c : Nat) : Int) := (Int.natCast_mul r c).symm
  have hr1 : r * c ≤ rcb (.inr w) cb := rcb_ge hcb (by unfold vcl; rw [if_neg (by omega)]; omega)
  have hr2 := rvb_ge (o := .inr w) hvb
  refine ⟨_, rfl, rext_fill (rext_tab hq hb (by omega)) (by omega) g, rfr_tr (rfr_tab s q b _ _) (rfr_fill _ b _ g), ?_, ?_, he, rfl, q, hq3, rfl, ?_⟩
  · show (b : Int) + (r : Int) * (c : Int) ≤ s.1 3 + ((rcb (.inr w) cb : Nat) : Int); omega
  · show (q : Int) + 1 ≤ s.1 4 + ((rvb (.inr w) vb : Nat) : Int); omega
  · refine rv_flat (fr := b) hw (by omega) ?_ ?_ ?_ ?_ (fun k hk2 => ?_)
    · show (q : Int) < (q : Int) + 1; omega
    · show va_up (s.2.2.1 1) q _ q = _; rw [up_eq]
    · show va_up (s.2.2.1 2) q _ q = _; rw [up_eq, hk, hm, hc]; omega
    · show (b : Int) + (vq w : Int) ≤ (b : Int) + (r : Int) * (c : Int); omega
    · rw [fill_at (by omega), hf k (by omega)]
/-- a nest's row that has been filled with handles -/
theorem rres_nest {pre post : mj_H} {s : RS} {e q b n : Nat} {g : Nat → Int64} {place : Int} {ch : Nat → VV} {cb vb : Nat} (hq : s.1 4 = (q : Int)) (hq3 : 3 ≤ q) (hb : s.1 3 = (b : Int)) (he : s.1 5 = 0) (hn : n ≤ 24) (hf : ∀ k, k < n → ∃ p : Nat, 3 ≤ p ∧ g k = Int64.ofInt (p : Int) ∧ rv s e p (ch k)) (hcb : n ≤ cb) (hvb : 1 ≤ vb) : rres pre post s (e + 1) (.inr (vnest n ch)) place cb vb (ii (q : Int)) (rS pre post (fillS (rowS s q b 7 (n : Int)) b n g)) := by
  have hr1 : n ≤ rcb (.inr (vnest n ch)) cb := rcb_ge hcb (by show n ≤ (if (7 : Nat) = 7 then n else _); rw [if_pos rfl]; exact Nat.le_refl _)
  have hr2 := rvb_ge (o := .inr (vnest n ch)) hvb
  have hx : rext s (fillS (rowS s q b 7 (n : Int)) b n g) := rext_fill (rext_row hq hb _ (by omega)) (by omega) g
  refine ⟨_, rfl, hx, rfr_tr (rfr_row s q b _ _) (rfr_fill _ b n g), ?_, ?_, he, rfl, q, hq3, rfl, ?_⟩
  · show (b : Int) + (n : Int) ≤ s.1 3 + ((rcb (.inr (vnest n ch)) cb : Nat) : Int); omega
  · show (q : Int) + 1 ≤ s.1 4 + ((rvb (.inr (vnest n ch)) vb : Nat) : Int); omega
  · refine ⟨vw1_nest hn, ?_, ?_, b, ?_, ?_, fun z => absurd rfl z, fun _ k hk => ?_⟩
    · show (q : Int) < (q : Int) + 1; omega
    · show va_up (s.2.2.1 2) q _ q = _; rw [up_eq]; show (7 : Int) + (n : Int) * 8 = ((7 : Nat) : Int) + 8 * (n : Int) + 2048 * ((0 : Nat) : Int); omega
    · show va_up (s.2.2.1 1) q _ q = _; rw [up_eq]
    · show (b : Int) + ((n : Nat) : Int) ≤ (b : Int) + (n : Int); omega
    · obtain ⟨p, p1, p2, p3⟩ := hf k hk
      exact ⟨p, p1, (fill_at hk).trans p2, rv_ext hx p1 p3⟩
set_option maxRecDepth 20000 in
theorem pm_X12_places : mj_mmof pg_ms 286 = some ((⟨"ArrayCalculatorModel", "places", "(I)I"⟩, prog_14_method_33_code, 4, (Option.some Jvm.ClassFile.FieldType.int)), 12, false, mj_dec prog_14_method_33_code) := rfl
theorem dm_X12_places_0 : mj_dec prog_14_method_33_code 0 = some (.aload_n 0, 1) := by decide +kernel
theorem dm_X12_places_1 : mj_dec prog_14_method_33_code 1 = some (.iconst 4, 1) := by decide +kernel
theorem dm_X12_places_2 : mj_dec prog_14_method_33_code 2 = some (.iload_n 1, 1) := by decide +kernel
theorem dm_X12_places_3 : mj_dec prog_14_method_33_code 3 = some (.invokevirtual 126, 3) := by decide +kernel
theorem dm_X12_places_6 : mj_dec prog_14_method_33_code 6 = some (.istore_n 2, 1) := by decide +kernel
theorem dm_X12_places_7 : mj_dec prog_14_method_33_code 7 = some (.iconst 0, 1) := by decide +kernel
theorem dm_X12_places_8 : mj_dec prog_14_method_33_code 8 = some (.istore_n 3, 1) := by decide +kernel
theorem dm_X12_places_9 : mj_dec prog_14_method_33_code 9 = some (.iload_n 3, 1) := by decide +kernel
theorem dm_X12_places_10 : mj_dec prog_14_method_33_code 10 = some (.iload_n 1, 1) := by decide +kernel
theorem dm_X12_places_11 : mj_dec prog_14_method_33_code 11 = some (.if_icmp .ge 29, 3) := by decide +kernel
theorem dm_X12_places_14 : mj_dec prog_14_method_33_code 14 = some (.aload_n 0, 1) := by decide +kernel
theorem dm_X12_places_15 : mj_dec prog_14_method_33_code 15 = some (.getfield 8, 3) := by decide +kernel
theorem dm_X12_places_18 : mj_dec prog_14_method_33_code 18 = some (.aload_n 0, 1) := by decide +kernel
theorem dm_X12_places_19 : mj_dec prog_14_method_33_code 19 = some (.getfield 15, 3) := by decide +kernel
theorem dm_X12_places_22 : mj_dec prog_14_method_33_code 22 = some (.iload_n 2, 1) := by decide +kernel
theorem dm_X12_places_23 : mj_dec prog_14_method_33_code 23 = some (.iaload, 1) := by decide +kernel
theorem dm_X12_places_24 : mj_dec prog_14_method_33_code 24 = some (.iload_n 3, 1) := by decide +kernel
theorem dm_X12_places_25 : mj_dec prog_14_method_33_code 25 = some (.iadd, 1) := by decide +kernel
theorem dm_X12_places_26 : mj_dec prog_14_method_33_code 26 = some (.aload_n 0, 1) := by decide +kernel
theorem dm_X12_places_27 : mj_dec prog_14_method_33_code 27 = some (.getfield 33, 3) := by decide +kernel
theorem dm_X12_places_30 : mj_dec prog_14_method_33_code 30 = some (.iload_n 3, 1) := by decide +kernel
theorem dm_X12_places_31 : mj_dec prog_14_method_33_code 31 = some (.iaload, 1) := by decide +kernel
theorem dm_X12_places_32 : mj_dec prog_14_method_33_code 32 = some (.i2l, 1) := by decide +kernel
theorem dm_X12_places_33 : mj_dec prog_14_method_33_code 33 = some (.lastore, 1) := by decide +kernel
theorem dm_X12_places_34 : mj_dec prog_14_method_33_code 34 = some (.iinc 3 1, 3) := by decide +kernel
theorem dm_X12_places_37 : mj_dec prog_14_method_33_code 37 = some (.goto (-28), 3) := by decide +kernel
theorem dm_X12_places_40 : mj_dec prog_14_method_33_code 40 = some (.iload_n 2, 1) := by decide +kernel
theorem dm_X12_places_41 : mj_dec prog_14_method_33_code 41 = some (.ireturn, 1) := by decide +kernel
theorem r_places_ {xt : mj_X} {d e q b n : Nat} {pre post : mj_H} {s : RS} {place : Int} (hm : pre.length = 102) (hd1 : 4 ≤ d) (hq : s.1 4 = (q : Int)) (hb : s.1 3 = (b : Int)) (hq3 : 3 ≤ q) (hV2 : q < 310000) (he0 : s.1 5 = 0) (hn : n ≤ 120) (hC : b + n ≤ 820000) (hO : ∀ k, k < n → 0 ≤ s.2.2.1 14 k ∧ s.2.2.1 14 k ≤ 1000) : pgV xt d 286 [.ref 102, ii (n : Int)] (rS pre post s) (rres pre post s (e + 1) (.inr (vrow 4 n (fun k => Int64.ofInt (s.2.2.1 14 k)))) place n 1) := by
  refine x_enter pm_X12_places (L0 := [(0, .ref 102), (1, ii (n : Int))]) rfl (Nat.le_of_ble_eq_true rfl) (by omega) ?_
  refine me1 (pc' := 1) (L' := [(0, .ref 102), (1, ii (n : Int))]) (S' := [.ref 102]) dm_X12_places_0 rfl rfl rfl rfl ?_
  refine me0 (pc' := 2) (S' := [ii 4, .ref 102]) dm_X12_places_1 rfl rfl rfl rfl ?_
  refine me1 (pc' := 3) (L' := [(0, .ref 102), (1, ii (n : Int))]) (S' := [ii (n : Int), ii 4, .ref 102]) dm_X12_places_2 rfl rfl rfl rfl ?_
  refine x_cv (pc' := 6) (rest := []) dm_X12_places_3 rfl (q_inv (As := [ii 4, ii (n : Int)]) (S := []) hm rfl rfl rfl) rfl rfl rfl (r_row_ (q := q) (b := b) (s := s) hm (by omega) hq hb (by omega) (by omega) (by omega)) ?_
  rintro _ _ ⟨rfl, rfl⟩
  refine me1 (pc' := 7) (L' := [(2, ii (q : Int)), (0, .ref 102), (1, ii (n : Int))]) (S' := []) dm_X12_places_6 rfl rfl rfl rfl ?_
  refine me0 (pc' := 8) (S' := [ii 0]) dm_X12_places_7 rfl rfl rfl rfl ?_
  refine me1 (pc' := 9) (L' := [(3, ii 0), (2, ii (q : Int)), (0, .ref 102), (1, ii (n : Int))]) (S' := []) dm_X12_places_8 rfl rfl rfl rfl ?_
  have lp9 : ∀ (n9 : Nat) (k : Nat), n - k = n9 → (k ≤ n) → pgE xt (d - 1) 12 4 false (Option.some Jvm.ClassFile.FieldType.int) (mj_dec prog_14_method_33_code) 9 [(0, .ref 102), (1, ii (n : Int)), (2, ii (q : Int)), (3, ii (k : Int))] [] (rI pre post ((fillS (rowS s q b 4 (n : Int)) b k (fun k => Int64.ofInt (s.2.2.1 14 k))).1) ((fillS (rowS s q b 4 (n : Int)) b k (fun k => Int64.ofInt (s.2.2.1 14 k))).2.1) ((fillS (rowS s q b 4 (n : Int)) b k (fun k => Int64.ofInt (s.2.2.1 14 k))).2.2.1) ((fillS (rowS s q b 4 (n : Int)) b k (fun k => Int64.ofInt (s.2.2.1 14 k))).2.2.2)) (fun r h' => ∃ x, r = some x ∧ rres pre post s (e + 1) (.inr (vrow 4 n (fun k => Int64.ofInt (s.2.2.1 14 k)))) place n 1 x h') := by
    intro n9
    induction n9 using Nat.strongRecOn with
    | ind n9 ih9 =>
      intro k hm9 hk
      refine me1 (pc' := 10) (L' := [(0, .ref 102), (1, ii (n : Int)), (2, ii (q : Int)), (3, ii (k : Int))]) (S' := [ii (k : Int)]) dm_X12_places_9 rfl rfl rfl rfl ?_
      refine me1 (pc' := 11) (L' := [(0, .ref 102), (1, ii (n : Int)), (2, ii (q : Int)), (3, ii (k : Int))]) (S' := [ii (n : Int), ii (k : Int)]) dm_X12_places_10 rfl rfl rfl rfl ?_
      refine y_2ge (a := (k : Int)) (b := (n : Int)) (t := 40) (pc' := 14) dm_X12_places_11 rfl rfl (by omega) (fun hb1 => ?_) (fun hb1 => ?_)
      · refine me1 (pc' := 41) (L' := [(0, .ref 102), (1, ii (n : Int)), (2, ii (q : Int)), (3, ii (k : Int))]) (S' := [ii (q : Int)]) dm_X12_places_40 rfl rfl rfl rfl ?_
        refine y_ret (r := some (ii (q : Int))) dm_X12_places_41 rfl rfl rfl ?_
        have hkn : k = n := by omega
        subst hkn
        exact ⟨_, rfl, rres_row (kind := 4) (w := vrow 4 k (fun k => Int64.ofInt (s.2.2.1 14 k))) hq hq3 hb he0 (vw1_row (by omega) (by omega) hn) (by show ¬ 4 = 7; omega) (by show ¬ 4 = 6; omega) rfl rfl rfl (fun _ _ => rfl) (Nat.le_refl _) (Nat.le_refl _)⟩
      · refine me1 (pc' := 15) (L' := [(0, .ref 102), (1, ii (n : Int)), (2, ii (q : Int)), (3, ii (k : Int))]) (S' := [.ref 102]) dm_X12_places_14 rfl rfl rfl rfl ?_
        refine me3 (pc' := 18) (S' := [.ref (102 + 1)]) dm_X12_places_15 (q_getr hm rfl (fun m i l => rg_0 m i l)) rfl rfl rfl ?_
        refine me1 (pc' := 19) (L' := [(0, .ref 102), (1, ii (n : Int)), (2, ii (q : Int)), (3, ii (k : Int))]) (S' := [.ref 102, .ref (102 + 1)]) dm_X12_places_18 rfl rfl rfl rfl ?_
        refine me3 (pc' := 22) (S' := [.ref (102 + 2), .ref (102 + 1)]) dm_X12_places_19 (q_getr hm rfl (fun m i l => rg_1 m i l)) rfl rfl rfl ?_
        refine me1 (pc' := 23) (L' := [(0, .ref 102), (1, ii (n : Int)), (2, ii (q : Int)), (3, ii (k : Int))]) (S' := [ii (q : Int), .ref (102 + 2), .ref (102 + 1)]) dm_X12_places_22 rfl rfl rfl rfl ?_
        refine me3 (pc' := 24) (S' := [ii ((((fillS (rowS s q b 4 (n : Int)) b k (fun k => Int64.ofInt (s.2.2.1 14 k))).2.2.1) 1) q), .ref (102 + 1)]) dm_X12_places_23 (q_iald (v := (((fillS (rowS s q b 4 (n : Int)) b k (fun k => Int64.ofInt (s.2.2.1 14 k))).2.2.1) 1) q) (k := 1) (n := 310000) hm (fun m i l I J => rc_1 m i l I J) (by omega) (by omega) (by decide) rfl) rfl rfl rfl ?_
        refine pg_st (S' := [ii (b : Int), .ref (102 + 1)]) (congrArg (fun z => ii z :: [.ref (102 + 1)]) (up_eq _ _ _)) ?_
        refine me1 (pc' := 25) (L' := [(0, .ref 102), (1, ii (n : Int)), (2, ii (q : Int)), (3, ii (k : Int))]) (S' := [ii (k : Int), ii (b : Int), .ref (102 + 1)]) dm_X12_places_24 rfl rfl rfl rfl ?_
        refine y_iadd (a := (b : Int)) (b := (k : Int)) dm_X12_places_25 (pc' := 26) rfl ?_
        refine me1 (pc' := 27) (L' := [(0, .ref 102), (1, ii (n : Int)), (2, ii (q : Int)), (3, ii (k : Int))]) (S' := [.ref 102, ii ((b : Int) + (k : Int)), .ref (102 + 1)]) dm_X12_places_26 rfl rfl rfl rfl ?_
        refine me3 (pc' := 30) (S' := [.ref (102 + 5), ii ((b : Int) + (k : Int)), .ref (102 + 1)]) dm_X12_places_27 (q_getr hm rfl (fun m i l => rg_14 m i l)) rfl rfl rfl ?_
        refine me1 (pc' := 31) (L' := [(0, .ref 102), (1, ii (n : Int)), (2, ii (q : Int)), (3, ii (k : Int))]) (S' := [ii (k : Int), .ref (102 + 5), ii ((b : Int) + (k : Int)), .ref (102 + 1)]) dm_X12_places_30 rfl rfl rfl rfl ?_
        refine me3 (pc' := 32) (S' := [ii ((((fillS (rowS s q b 4 (n : Int)) b k (fun k => Int64.ofInt (s.2.2.1 14 k))).2.2.1) 14) k), ii ((b : Int) + (k : Int)), .ref (102 + 1)]) dm_X12_places_31 (q_iald (v := (((fillS (rowS s q b 4 (n : Int)) b k (fun k => Int64.ofInt (s.2.2.1 14 k))).2.2.1) 14) k) (k := 14) (n := 260) hm (fun m i l I J => rc_14 m i l I J) (by omega) (by omega) (by decide) rfl) rfl rfl rfl ?_
        have hOk := hO k (by omega)
        refine pg_st (S' := [ii (s.2.2.1 14 k), ii ((b : Int) + (k : Int)), .ref (102 + 1)]) rfl ?_
        refine y_i2l (a := s.2.2.1 14 k) dm_X12_places_32 (pc' := 33) rfl (by omega) (by omega) ?_
        refine me3 (pc' := 34) (S' := []) (h1 := rI pre post ((fillS (rowS s q b 4 (n : Int)) b k (fun k => Int64.ofInt (s.2.2.1 14 k))).1) ((fillS (rowS s q b 4 (n : Int)) b k (fun k => Int64.ofInt (s.2.2.1 14 k))).2.1) ((fillS (rowS s q b 4 (n : Int)) b k (fun k => Int64.ofInt (s.2.2.1 14 k))).2.2.1) (va_up ((fillS (rowS s q b 4 (n : Int)) b k (fun k => Int64.ofInt (s.2.2.1 14 k))).2.2.2) 0 (va_up (((fillS (rowS s q b 4 (n : Int)) b k (fun k => Int64.ofInt (s.2.2.1 14 k))).2.2.2) 0) (b + k) (Int64.ofInt (s.2.2.1 14 k))))) dm_X12_places_33 (q_last (j := (b : Int) + (k : Int)) (k := 0) (n := 820000) hm (fun m i l I J => rc_0 m i l I J) (fun m i l I J f => rs_0 m i l I J f) (by omega) (by omega) (by decide)) rfl rfl rfl ?_
        refine y_iinc (pc' := 37) (L' := [(3, ii ((k : Int) + 1)), (0, .ref 102), (1, ii (n : Int)), (2, ii (q : Int))]) dm_X12_places_34 (y_incp (a := (k : Int)) (c := 1) rfl rfl (by decide)) rfl ?_
        refine me2 (pc' := 9) (S' := []) dm_X12_places_37 rfl rfl rfl ?_
        refine pg_cast (h2 := rI pre post ((fillS (rowS s q b 4 (n : Int)) b (k + 1) (fun k => Int64.ofInt (s.2.2.1 14 k))).1) ((fillS (rowS s q b 4 (n : Int)) b (k + 1) (fun k => Int64.ofInt (s.2.2.1 14 k))).2.1) ((fillS (rowS s q b 4 (n : Int)) b (k + 1) (fun k => Int64.ofInt (s.2.2.1 14 k))).2.2.1) ((fillS (rowS s q b 4 (n : Int)) b (k + 1) (fun k => Int64.ofInt (s.2.2.1 14 k))).2.2.2)) (fill_s (rowS s q b 4 (n : Int)) b k (fun k => Int64.ofInt (s.2.2.1 14 k))) ?_
        exact pg_sub (L := [(0, .ref 102), (1, ii (n : Int)), (2, ii (q : Int)), (3, ii ((k + 1) : Int))]) rfl rfl rfl (ih9 (n - (k + 1)) (by omega) (k + 1) rfl (by omega))
  refine pg_cast (h2 := rI pre post ((fillS (rowS s q b 4 (n : Int)) b 0 (fun k => Int64.ofInt (s.2.2.1 14 k))).1) ((fillS (rowS s q b 4 (n : Int)) b 0 (fun k => Int64.ofInt (s.2.2.1 14 k))).2.1) ((fillS (rowS s q b 4 (n : Int)) b 0 (fun k => Int64.ofInt (s.2.2.1 14 k))).2.2.1) ((fillS (rowS s q b 4 (n : Int)) b 0 (fun k => Int64.ofInt (s.2.2.1 14 k))).2.2.2)) (fill_0 (rowS s q b 4 (n : Int)) b (fun k => Int64.ofInt (s.2.2.1 14 k))) ?_
  exact pg_sub (L := [(0, .ref 102), (1, ii (n : Int)), (2, ii (q : Int)), (3, ii (0 : Int))]) rfl rfl rfl (lp9 _ 0 rfl (Nat.zero_le _))
theorem r_numberN_ {xt : mj_X} {d e hd : Nat} {pre post : mj_H} {s : RS} {v : VV} (hm : pre.length = 102) {k : Nat} (hd1 : 1 ≤ d) (hB : rB s) (hv : rv s (e + 1) hd v) (hk7 : vk v = 7) (hk : k < vm v) : ∃ q : Nat, 3 ≤ q ∧ rv s e q (vd v k) ∧ pgP xt d 226 [.ref 102, ii (hd : Int), ii (k : Int)] (rS pre post s) (.long (Int64.ofInt (q : Int))) := by
  obtain ⟨hB1, hB2, hB3, hB4⟩ := hB
  obtain ⟨fr, hfr, hsh, hlt, hcl, hvk, hvm, hvc, hvq, hvcl⟩ := rv_val hv
  have hvc2 : vcl v = vm v := by unfold vcl; rw [if_pos hk7]
  obtain ⟨fr2, q, hfr2, hq3, hnum, hqv⟩ : ∃ fr2 q : Nat, s.2.2.1 1 hd = (fr2 : Int) ∧ 3 ≤ q ∧ s.2.2.2 0 (fr2 + k) = Int64.ofInt (q : Int) ∧ rv s e q (vd v k) := by
    obtain ⟨-, -, -, fr2, h1, -, -, h2⟩ := hv
    obtain ⟨q, q1, q2, q3⟩ := h2 hk7 k hk
    exact ⟨fr2, q, h1, q1, q2, q3⟩
  refine ⟨q, hq3, hqv, ?_⟩
  refine x_enter pm_X12_number (L0 := [(0, .ref 102), (1, ii (hd : Int)), (2, ii (k : Int))]) rfl (Nat.le_of_ble_eq_true rfl) (by omega) ?_
  refine me1 (pc' := 1) (L' := [(0, .ref 102), (1, ii (hd : Int)), (2, ii (k : Int))]) (S' := [.ref 102]) dm_X12_number_0 rfl rfl rfl rfl ?_
  refine me3 (pc' := 4) (S' := [.ref (102 + 1)]) dm_X12_number_1 (q_getr hm rfl (fun m i l => rg_0 m i l)) rfl rfl rfl ?_
  refine me1 (pc' := 5) (L' := [(0, .ref 102), (1, ii (hd : Int)), (2, ii (k : Int))]) (S' := [.ref 102, .ref (102 + 1)]) dm_X12_number_4 rfl rfl rfl rfl ?_
  refine me3 (pc' := 8) (S' := [.ref (102 + 2), .ref (102 + 1)]) dm_X12_number_5 (q_getr hm rfl (fun m i l => rg_1 m i l)) rfl rfl rfl ?_
  refine me1 (pc' := 9) (L' := [(0, .ref 102), (1, ii (hd : Int)), (2, ii (k : Int))]) (S' := [ii (hd : Int), .ref (102 + 2), .ref (102 + 1)]) dm_X12_number_8 rfl rfl rfl rfl ?_
  refine me3 (pc' := 10) (S' := [ii ((s.2.2.1 1) hd), .ref (102 + 1)]) dm_X12_number_9 (q_iald (v := (s.2.2.1 1) hd) (k := 1) (n := 310000) hm (fun m i l I J => rc_1 m i l I J) (by omega) (by omega) (by decide) rfl) rfl rfl rfl ?_
  refine me1 (pc' := 11) (L' := [(0, .ref 102), (1, ii (hd : Int)), (2, ii (k : Int))]) (S' := [ii (k : Int), ii ((s.2.2.1 1) hd), .ref (102 + 1)]) dm_X12_number_10 rfl rfl rfl rfl ?_
  refine y_iadd (a := (s.2.2.1 1) hd) (b := (k : Int)) dm_X12_number_11 (pc' := 12) rfl ?_
  refine me3 (pc' := 13) (S' := [.long ((s.2.2.2 0) ((((s.2.2.1 1) hd) + (k : Int)).toNat))]) dm_X12_number_12 (q_lald (v := (s.2.2.2 0) ((((s.2.2.1 1) hd) + (k : Int)).toNat)) (k := 0) (n := 820000) hm (fun m i l I J => rc_0 m i l I J) (by omega) (by omega) (by decide) rfl) rfl rfl rfl ?_
  refine y_ret (r := some (.long ((s.2.2.2 0) ((((s.2.2.1 1) hd) + (k : Int)).toNat)))) dm_X12_number_13 rfl rfl rfl ?_
  refine ⟨congrArg some (congrArg Value.long ?_), rfl⟩
  rw [hfr2, show ((fr2 : Int) + (k : Int)).toNat = fr2 + k by omega]
  exact hnum
set_option maxRecDepth 20000 in
theorem pm_X12_picked : mj_mmof pg_ms 266 = some ((⟨"ArrayCalculatorModel", "picked", "(II)I"⟩, prog_14_method_34_code, 7, (Option.some Jvm.ClassFile.FieldType.int)), 12, false, mj_dec prog_14_method_34_code) := rfl
theorem dm_X12_picked_0 : mj_dec prog_14_method_34_code 0 = some (.aload_n 0, 1) := by decide +kernel
theorem dm_X12_picked_1 : mj_dec prog_14_method_34_code 1 = some (.iload_n 1, 1) := by decide +kernel
theorem dm_X12_picked_2 : mj_dec prog_14_method_34_code 2 = some (.invokevirtual 146, 3) := by decide +kernel
theorem dm_X12_picked_5 : mj_dec prog_14_method_34_code 5 = some (.istore_n 3, 1) := by decide +kernel
theorem dm_X12_picked_6 : mj_dec prog_14_method_34_code 6 = some (.iload_n 3, 1) := by decide +kernel
theorem dm_X12_picked_7 : mj_dec prog_14_method_34_code 7 = some (.bipush 6, 2) := by decide +kernel
theorem dm_X12_picked_9 : mj_dec prog_14_method_34_code 9 = some (.if_icmp .ne 79, 3) := by decide +kernel
theorem dm_X12_picked_88 : mj_dec prog_14_method_34_code 88 = some (.aload_n 0, 1) := by decide +kernel
theorem dm_X12_picked_89 : mj_dec prog_14_method_34_code 89 = some (.iload_n 3, 1) := by decide +kernel
theorem dm_X12_picked_90 : mj_dec prog_14_method_34_code 90 = some (.ifCond .ne 23, 3) := by decide +kernel
theorem dm_X12_picked_93 : mj_dec prog_14_method_34_code 93 = some (.aload_n 0, 1) := by decide +kernel
theorem dm_X12_picked_94 : mj_dec prog_14_method_34_code 94 = some (.iload_n 1, 1) := by decide +kernel
theorem dm_X12_picked_95 : mj_dec prog_14_method_34_code 95 = some (.iconst 0, 1) := by decide +kernel
theorem dm_X12_picked_96 : mj_dec prog_14_method_34_code 96 = some (.invokevirtual 138, 3) := by decide +kernel
theorem dm_X12_picked_99 : mj_dec prog_14_method_34_code 99 = some (.invokestatic 142, 3) := by decide +kernel
theorem dm_X12_picked_102 : mj_dec prog_14_method_34_code 102 = some (.ifCond .eq 7, 3) := by decide +kernel
theorem dm_X12_picked_105 : mj_dec prog_14_method_34_code 105 = some (.iconst 4, 1) := by decide +kernel
theorem dm_X12_picked_106 : mj_dec prog_14_method_34_code 106 = some (.goto 17, 3) := by decide +kernel
theorem dm_X12_picked_109 : mj_dec prog_14_method_34_code 109 = some (.iconst 5, 1) := by decide +kernel
theorem dm_X12_picked_110 : mj_dec prog_14_method_34_code 110 = some (.goto 13, 3) := by decide +kernel
theorem dm_X12_picked_113 : mj_dec prog_14_method_34_code 113 = some (.iload_n 3, 1) := by decide +kernel
theorem dm_X12_picked_114 : mj_dec prog_14_method_34_code 114 = some (.iconst 1, 1) := by decide +kernel
theorem dm_X12_picked_115 : mj_dec prog_14_method_34_code 115 = some (.if_icmp .ne 7, 3) := by decide +kernel
theorem dm_X12_picked_118 : mj_dec prog_14_method_34_code 118 = some (.iconst 3, 1) := by decide +kernel
theorem dm_X12_picked_119 : mj_dec prog_14_method_34_code 119 = some (.goto 4, 3) := by decide +kernel
theorem dm_X12_picked_122 : mj_dec prog_14_method_34_code 122 = some (.iload_n 3, 1) := by decide +kernel
theorem dm_X12_picked_123 : mj_dec prog_14_method_34_code 123 = some (.iload_n 2, 1) := by decide +kernel
theorem dm_X12_picked_124 : mj_dec prog_14_method_34_code 124 = some (.invokevirtual 126, 3) := by decide +kernel
theorem dm_X12_picked_127 : mj_dec prog_14_method_34_code 127 = some (.istore 4, 2) := by decide +kernel
theorem dm_X12_picked_129 : mj_dec prog_14_method_34_code 129 = some (.iconst 0, 1) := by decide +kernel
theorem dm_X12_picked_130 : mj_dec prog_14_method_34_code 130 = some (.istore 5, 2) := by decide +kernel
theorem dm_X12_picked_132 : mj_dec prog_14_method_34_code 132 = some (.iload 5, 2) := by decide +kernel
theorem dm_X12_picked_134 : mj_dec prog_14_method_34_code 134 = some (.iload_n 2, 1) := by decide +kernel
theorem dm_X12_picked_135 : mj_dec prog_14_method_34_code 135 = some (.if_icmp .ge 36, 3) := by decide +kernel
theorem dm_X12_picked_138 : mj_dec prog_14_method_34_code 138 = some (.aload_n 0, 1) := by decide +kernel
theorem dm_X12_picked_139 : mj_dec prog_14_method_34_code 139 = some (.getfield 8, 3) := by decide +kernel
theorem dm_X12_picked_142 : mj_dec prog_14_method_34_code 142 = some (.aload_n 0, 1) := by decide +kernel
theorem dm_X12_picked_143 : mj_dec prog_14_method_34_code 143 = some (.getfield 15, 3) := by decide +kernel
theorem dm_X12_picked_146 : mj_dec prog_14_method_34_code 146 = some (.iload 4, 2) := by decide +kernel
theorem dm_X12_picked_148 : mj_dec prog_14_method_34_code 148 = some (.iaload, 1) := by decide +kernel
theorem dm_X12_picked_149 : mj_dec prog_14_method_34_code 149 = some (.iload 5, 2) := by decide +kernel
theorem dm_X12_picked_151 : mj_dec prog_14_method_34_code 151 = some (.iadd, 1) := by decide +kernel
theorem dm_X12_picked_152 : mj_dec prog_14_method_34_code 152 = some (.aload_n 0, 1) := by decide +kernel
theorem dm_X12_picked_153 : mj_dec prog_14_method_34_code 153 = some (.iload_n 1, 1) := by decide +kernel
theorem dm_X12_picked_154 : mj_dec prog_14_method_34_code 154 = some (.aload_n 0, 1) := by decide +kernel
theorem dm_X12_picked_155 : mj_dec prog_14_method_34_code 155 = some (.getfield 33, 3) := by decide +kernel
theorem dm_X12_picked_158 : mj_dec prog_14_method_34_code 158 = some (.iload 5, 2) := by decide +kernel
theorem dm_X12_picked_160 : mj_dec prog_14_method_34_code 160 = some (.iaload, 1) := by decide +kernel
theorem dm_X12_picked_161 : mj_dec prog_14_method_34_code 161 = some (.invokevirtual 138, 3) := by decide +kernel
theorem dm_X12_picked_164 : mj_dec prog_14_method_34_code 164 = some (.lastore, 1) := by decide +kernel
theorem dm_X12_picked_165 : mj_dec prog_14_method_34_code 165 = some (.iinc 5 1, 3) := by decide +kernel
theorem dm_X12_picked_168 : mj_dec prog_14_method_34_code 168 = some (.goto (-36), 3) := by decide +kernel
theorem dm_X12_picked_171 : mj_dec prog_14_method_34_code 171 = some (.iload 4, 2) := by decide +kernel
theorem dm_X12_picked_173 : mj_dec prog_14_method_34_code 173 = some (.ireturn, 1) := by decide +kernel
theorem r_pickedR {xt : mj_X} {d e hd q b n : Nat} {pre post : mj_H} {s : RS} {v : VV} {place : Int} (hm : pre.length = 102) (hd1 : 5 ≤ d) (hB : rB s) (hv : rv s (e + 1) hd v) (hh3 : 3 ≤ hd) (hq : s.1 4 = (q : Int)) (hb : s.1 3 = (b : Int)) (hq3 : 3 ≤ q) (hV2 : q < 310000) (he0 : s.1 5 = 0) (hk5 : vk v ≤ 5) (hn : n ≤ 120) (hC : b + n ≤ 820000) (hO : ∀ k, k < n → 0 ≤ s.2.2.1 14 k ∧ s.2.2.1 14 k < vm v) : pgV xt d 266 [.ref 102, ii (hd : Int), ii (n : Int)] (rS pre post s) (rres pre post s (e + 1) (.inr (vpick v (fun k => (s.2.2.1 14 k).toNat) n)) place n 1) := by
  have hB0 := hB
  obtain ⟨hB1, hB2, hB3, hB4⟩ := hB
  obtain ⟨fr, hfr, hsh, hlt, hcl, hvk, hvm, hvc, hvq, hvcl⟩ := rv_val hv
  have hvq1 : vk v ≤ 1 → vq v = 1 := vq_1 hv.1
  have hvq2 : vq v = vm v := by unfold vq; rw [if_neg (by omega), if_neg (by omega)]
  clear hvq1
  refine x_enter pm_X12_picked (L0 := [(0, .ref 102), (1, ii (hd : Int)), (2, ii (n : Int))]) rfl (Nat.le_of_ble_eq_true rfl) (by omega) ?_
  refine me1 (pc' := 1) (L' := [(0, .ref 102), (1, ii (hd : Int)), (2, ii (n : Int))]) (S' := [.ref 102]) dm_X12_picked_0 rfl rfl rfl rfl ?_
  refine me1 (pc' := 2) (L' := [(0, .ref 102), (1, ii (hd : Int)), (2, ii (n : Int))]) (S' := [ii (hd : Int), .ref 102]) dm_X12_picked_1 rfl rfl rfl rfl ?_
  refine x_cp (pc' := 5) (v := ii (vk v : Int)) (rest := []) dm_X12_picked_2 rfl (q_inv (As := [ii (hd : Int)]) (S := []) hm rfl rfl rfl) rfl rfl rfl (r_kindOf_ hm (by omega) hB0 hv) ?_
  refine me1 (pc' := 6) (L' := [(3, ii (vk v : Int)), (0, .ref 102), (1, ii (hd : Int)), (2, ii (n : Int))]) (S' := []) dm_X12_picked_5 rfl rfl rfl rfl ?_
  refine me1 (pc' := 7) (L' := [(3, ii (vk v : Int)), (0, .ref 102), (1, ii (hd : Int)), (2, ii (n : Int))]) (S' := [ii (vk v : Int)]) dm_X12_picked_6 rfl rfl rfl rfl ?_
  refine me0 (pc' := 9) (S' := [ii 6, ii (vk v : Int)]) dm_X12_picked_7 rfl rfl rfl rfl ?_
  refine y_2ne (a := (vk v : Int)) (b := 6) (t := 88) (pc' := 12) dm_X12_picked_9 rfl rfl (by omega) (fun hb1 => ?_) (fun hb1 => ?_)
  · have hvm1 : vk v ≠ 0 ∨ vm v = 1 := by by_cases z : vk v = 0; exact Or.inr (hv.1.2.1 (by omega)).1; exact Or.inl z
    refine me1 (pc' := 89) (L' := [(3, ii (vk v : Int)), (0, .ref 102), (1, ii (hd : Int)), (2, ii (n : Int))]) (S' := [.ref 102]) dm_X12_picked_88 rfl rfl rfl rfl ?_
    refine me1 (pc' := 90) (L' := [(3, ii (vk v : Int)), (0, .ref 102), (1, ii (hd : Int)), (2, ii (n : Int))]) (S' := [ii (vk v : Int), .ref 102]) dm_X12_picked_89 rfl rfl rfl rfl ?_
    refine y_1ne (a := (vk v : Int)) (t := 113) (pc' := 93) dm_X12_picked_90 rfl rfl (by omega) (fun hb2 => ?_) (fun hb2 => ?_)
    · refine me1 (pc' := 114) (L' := [(3, ii (vk v : Int)), (0, .ref 102), (1, ii (hd : Int)), (2, ii (n : Int))]) (S' := [ii (vk v : Int), .ref 102]) dm_X12_picked_113 rfl rfl rfl rfl ?_
      refine me0 (pc' := 115) (S' := [ii 1, ii (vk v : Int), .ref 102]) dm_X12_picked_114 rfl rfl rfl rfl ?_
      refine y_2ne (a := (vk v : Int)) (b := 1) (t := 122) (pc' := 118) dm_X12_picked_115 rfl rfl (by omega) (fun hb3 => ?_) (fun hb3 => ?_)
      · refine me1 (pc' := 123) (L' := [(3, ii (vk v : Int)), (0, .ref 102), (1, ii (hd : Int)), (2, ii (n : Int))]) (S' := [ii (vk v : Int), .ref 102]) dm_X12_picked_122 rfl rfl rfl rfl ?_
        refine me1 (pc' := 124) (L' := [(3, ii (vk v : Int)), (0, .ref 102), (1, ii (hd : Int)), (2, ii (n : Int))]) (S' := [ii (n : Int), ii (vk v : Int), .ref 102]) dm_X12_picked_123 rfl rfl rfl rfl ?_
        have hpkk : pickk v = vk v := by unfold pickk; rw [if_neg (by omega), if_neg (by omega)]
        refine x_cv (pc' := 127) (rest := []) dm_X12_picked_124 rfl (q_inv (As := [ii (vk v : Int), ii (n : Int)]) (S := []) hm rfl rfl rfl) rfl rfl rfl (r_row_ (q := q) (b := b) (s := s) hm (by omega) hq hb (by omega) (by omega) (by omega)) ?_
        rintro _ _ ⟨rfl, rfl⟩
        refine me1 (pc' := 129) (L' := [(4, ii (q : Int)), (3, ii (vk v : Int)), (0, .ref 102), (1, ii (hd : Int)), (2, ii (n : Int))]) (S' := []) dm_X12_picked_127 rfl rfl rfl rfl ?_
        refine me0 (pc' := 130) (S' := [ii 0]) dm_X12_picked_129 rfl rfl rfl rfl ?_
        refine me1 (pc' := 132) (L' := [(5, ii 0), (4, ii (q : Int)), (3, ii (vk v : Int)), (0, .ref 102), (1, ii (hd : Int)), (2, ii (n : Int))]) (S' := []) dm_X12_picked_130 rfl rfl rfl rfl ?_
        have lp132 : ∀ (n132 : Nat) (k : Nat), n - k = n132 → (k ≤ n) → pgE xt (d - 1) 12 7 false (Option.some Jvm.ClassFile.FieldType.int) (mj_dec prog_14_method_34_code) 132 [(0, .ref 102), (1, ii (hd : Int)), (2, ii (n : Int)), (3, ii (vk v : Int)), (4, ii (q : Int)), (5, ii (k : Int))] [] (rI pre post ((fillS (rowS s q b (vk v : Int) (n : Int)) b k (fun k => vn v (s.2.2.1 14 k).toNat)).1) ((fillS (rowS s q b (vk v : Int) (n : Int)) b k (fun k => vn v (s.2.2.1 14 k).toNat)).2.1) ((fillS (rowS s q b (vk v : Int) (n : Int)) b k (fun k => vn v (s.2.2.1 14 k).toNat)).2.2.1) ((fillS (rowS s q b (vk v : Int) (n : Int)) b k (fun k => vn v (s.2.2.1 14 k).toNat)).2.2.2)) (fun r h' => ∃ x, r = some x ∧ rres pre post s (e + 1) (.inr (vpick v (fun k => (s.2.2.1 14 k).toNat) n)) place n 1 x h') := by
          intro n132
          induction n132 using Nat.strongRecOn with
          | ind n132 ih132 =>
            intro k hm132 hk
            refine me1 (pc' := 134) (L' := [(0, .ref 102), (1, ii (hd : Int)), (2, ii (n : Int)), (3, ii (vk v : Int)), (4, ii (q : Int)), (5, ii (k : Int))]) (S' := [ii (k : Int)]) dm_X12_picked_132 rfl rfl rfl rfl ?_
            refine me1 (pc' := 135) (L' := [(0, .ref 102), (1, ii (hd : Int)), (2, ii (n : Int)), (3, ii (vk v : Int)), (4, ii (q : Int)), (5, ii (k : Int))]) (S' := [ii (n : Int), ii (k : Int)]) dm_X12_picked_134 rfl rfl rfl rfl ?_
            refine y_2ge (a := (k : Int)) (b := (n : Int)) (t := 171) (pc' := 138) dm_X12_picked_135 rfl rfl (by omega) (fun hb4 => ?_) (fun hb4 => ?_)
            · refine me1 (pc' := 173) (L' := [(0, .ref 102), (1, ii (hd : Int)), (2, ii (n : Int)), (3, ii (vk v : Int)), (4, ii (q : Int)), (5, ii (k : Int))]) (S' := [ii (q : Int)]) dm_X12_picked_171 rfl rfl rfl rfl ?_
              refine y_ret (r := some (ii (q : Int))) dm_X12_picked_173 rfl rfl rfl ?_
              have hkn : k = n := by omega
              subst hkn
              have hwp := vw1_pick (o := fun k => (s.2.2.1 14 k).toNat) hv.1 (show vk v ≤ 5 by omega) hn (fun j hj => by have := hO j hj; omega)
              rw [vpick_r (by omega), hpkk]
              rw [hpkk] at hwp
              exact ⟨_, rfl, rres_row (kind := vk v) hq hq3 hb he0 hwp (by show ¬ vk v = 7; omega) (by show ¬ vk v = 6; omega) rfl rfl rfl (fun j hj => by show vn v _ = vn v _; by_cases z : vk v ≤ 1; (have hz := hv.1.2.1 z; have hOj := hO j hj; rw [if_pos z]; congr 1; omega); rw [if_neg z]) (Nat.le_refl _) (Nat.le_refl _)⟩
            · have hOk := hO k (by omega)
              have hxT : rext s (fillS (rowS s q b (vk v : Int) (n : Int)) b k (fun k => vn v (s.2.2.1 14 k).toNat)) := rext_fill (rext_row hq hb _ (by omega)) (by omega) _
              have hvX := rv_ext hxT hh3 hv
              have hBX : rB (fillS (rowS s q b (vk v : Int) (n : Int)) b k (fun k => vn v (s.2.2.1 14 k).toNat)) := ⟨by show 3 ≤ (q : Int) + 1; omega, by show (q : Int) + 1 ≤ 310000; omega, by show 0 ≤ (b : Int) + (n : Int); omega, by show (b : Int) + (n : Int) ≤ 820000; omega⟩
              refine me1 (pc' := 139) (L' := [(0, .ref 102), (1, ii (hd : Int)), (2, ii (n : Int)), (3, ii (vk v : Int)), (4, ii (q : Int)), (5, ii (k : Int))]) (S' := [.ref 102]) dm_X12_picked_138 rfl rfl rfl rfl ?_
              refine me3 (pc' := 142) (S' := [.ref (102 + 1)]) dm_X12_picked_139 (q_getr hm rfl (fun m i l => rg_0 m i l)) rfl rfl rfl ?_
              refine me1 (pc' := 143) (L' := [(0, .ref 102), (1, ii (hd : Int)), (2, ii (n : Int)), (3, ii (vk v : Int)), (4, ii (q : Int)), (5, ii (k : Int))]) (S' := [.ref 102, .ref (102 + 1)]) dm_X12_picked_142 rfl rfl rfl rfl ?_
              refine me3 (pc' := 146) (S' := [.ref (102 + 2), .ref (102 + 1)]) dm_X12_picked_143 (q_getr hm rfl (fun m i l => rg_1 m i l)) rfl rfl rfl ?_
              refine me1 (pc' := 148) (L' := [(0, .ref 102), (1, ii (hd : Int)), (2, ii (n : Int)), (3, ii (vk v : Int)), (4, ii (q : Int)), (5, ii (k : Int))]) (S' := [ii (q : Int), .ref (102 + 2), .ref (102 + 1)]) dm_X12_picked_146 rfl rfl rfl rfl ?_
              refine me3 (pc' := 149) (S' := [ii ((((fillS (rowS s q b (vk v : Int) (n : Int)) b k (fun k => vn v (s.2.2.1 14 k).toNat)).2.2.1) 1) q), .ref (102 + 1)]) dm_X12_picked_148 (q_iald (v := (((fillS (rowS s q b (vk v : Int) (n : Int)) b k (fun k => vn v (s.2.2.1 14 k).toNat)).2.2.1) 1) q) (k := 1) (n := 310000) hm (fun m i l I J => rc_1 m i l I J) (by omega) (by omega) (by decide) rfl) rfl rfl rfl ?_
              refine pg_st (S' := [ii (b : Int), .ref (102 + 1)]) (congrArg (fun z => ii z :: [.ref (102 + 1)]) (up_eq _ _ _)) ?_
              refine me1 (pc' := 151) (L' := [(0, .ref 102), (1, ii (hd : Int)), (2, ii (n : Int)), (3, ii (vk v : Int)), (4, ii (q : Int)), (5, ii (k : Int))]) (S' := [ii (k : Int), ii (b : Int), .ref (102 + 1)]) dm_X12_picked_149 rfl rfl rfl rfl ?_
              refine y_iadd (a := (b : Int)) (b := (k : Int)) dm_X12_picked_151 (pc' := 152) rfl ?_
              refine me1 (pc' := 153) (L' := [(0, .ref 102), (1, ii (hd : Int)), (2, ii (n : Int)), (3, ii (vk v : Int)), (4, ii (q : Int)), (5, ii (k : Int))]) (S' := [.ref 102, ii ((b : Int) + (k : Int)), .ref (102 + 1)]) dm_X12_picked_152 rfl rfl rfl rfl ?_
              refine me1 (pc' := 154) (L' := [(0, .ref 102), (1, ii (hd : Int)), (2, ii (n : Int)), (3, ii (vk v : Int)), (4, ii (q : Int)), (5, ii (k : Int))]) (S' := [ii (hd : Int), .ref 102, ii ((b : Int) + (k : Int)), .ref (102 + 1)]) dm_X12_picked_153 rfl rfl rfl rfl ?_
              refine me1 (pc' := 155) (L' := [(0, .ref 102), (1, ii (hd : Int)), (2, ii (n : Int)), (3, ii (vk v : Int)), (4, ii (q : Int)), (5, ii (k : Int))]) (S' := [.ref 102, ii (hd : Int), .ref 102, ii ((b : Int) + (k : Int)), .ref (102 + 1)]) dm_X12_picked_154 rfl rfl rfl rfl ?_
              refine me3 (pc' := 158) (S' := [.ref (102 + 5), ii (hd : Int), .ref 102, ii ((b : Int) + (k : Int)), .ref (102 + 1)]) dm_X12_picked_155 (q_getr hm rfl (fun m i l => rg_14 m i l)) rfl rfl rfl ?_
              refine me1 (pc' := 160) (L' := [(0, .ref 102), (1, ii (hd : Int)), (2, ii (n : Int)), (3, ii (vk v : Int)), (4, ii (q : Int)), (5, ii (k : Int))]) (S' := [ii (k : Int), .ref (102 + 5), ii (hd : Int), .ref 102, ii ((b : Int) + (k : Int)), .ref (102 + 1)]) dm_X12_picked_158 rfl rfl rfl rfl ?_
              refine me3 (pc' := 161) (S' := [ii ((((fillS (rowS s q b (vk v : Int) (n : Int)) b k (fun k => vn v (s.2.2.1 14 k).toNat)).2.2.1) 14) k), ii (hd : Int), .ref 102, ii ((b : Int) + (k : Int)), .ref (102 + 1)]) dm_X12_picked_160 (q_iald (v := (((fillS (rowS s q b (vk v : Int) (n : Int)) b k (fun k => vn v (s.2.2.1 14 k).toNat)).2.2.1) 14) k) (k := 14) (n := 260) hm (fun m i l I J => rc_14 m i l I J) (by omega) (by omega) (by decide) rfl) rfl rfl rfl ?_
              refine pg_st (S' := [ii ((s.2.2.1 14 k).toNat : Int), ii (hd : Int), .ref 102, ii ((b : Int) + (k : Int)), .ref (102 + 1)]) (by rw [show ((((fillS (rowS s q b (vk v : Int) (n : Int)) b k (fun k => vn v (s.2.2.1 14 k).toNat)).2.2.1) 14) k : Int) = (((s.2.2.1 14 k).toNat : Nat) : Int) from (Int.toNat_of_nonneg hOk.1).symm]) ?_
              refine x_cp (pc' := 164) (v := .long (vn v ((s.2.2.1 14 k).toNat))) (rest := [ii ((b : Int) + (k : Int)), .ref (102 + 1)]) dm_X12_picked_161 rfl (q_inv (As := [ii (hd : Int), ii ((s.2.2.1 14 k).toNat : Int)]) (S := [ii ((b : Int) + (k : Int)), .ref (102 + 1)]) hm rfl rfl rfl) rfl rfl rfl (r_number_ (k := (s.2.2.1 14 k).toNat) hm (by omega) hBX hvX (by omega) (by omega)) ?_
              refine me3 (pc' := 165) (S' := []) (h1 := rI pre post ((fillS (rowS s q b (vk v : Int) (n : Int)) b k (fun k => vn v (s.2.2.1 14 k).toNat)).1) ((fillS (rowS s q b (vk v : Int) (n : Int)) b k (fun k => vn v (s.2.2.1 14 k).toNat)).2.1) ((fillS (rowS s q b (vk v : Int) (n : Int)) b k (fun k => vn v (s.2.2.1 14 k).toNat)).2.2.1) (va_up ((fillS (rowS s q b (vk v : Int) (n : Int)) b k (fun k => vn v (s.2.2.1 14 k).toNat)).2.2.2) 0 (va_up (((fillS (rowS s q b (vk v : Int) (n : Int)) b k (fun k => vn v (s.2.2.1 14 k).toNat)).2.2.2) 0) (b + k) (vn v ((s.2.2.1 14 k).toNat))))) dm_X12_picked_164 (q_last (j := (b : Int) + (k : Int)) (k := 0) (n := 820000) hm (fun m i l I J => rc_0 m i l I J) (fun m i l I J f => rs_0 m i l I J f) (by omega) (by omega) (by decide)) rfl rfl rfl ?_
              refine y_iinc (pc' := 168) (L' := [(5, ii ((k : Int) + 1)), (0, .ref 102), (1, ii (hd : Int)), (2, ii (n : Int)), (3, ii (vk v : Int)), (4, ii (q : Int))]) dm_X12_picked_165 (y_incp (a := (k : Int)) (c := 1) rfl rfl (by decide)) rfl ?_
              refine me2 (pc' := 132) (S' := []) dm_X12_picked_168 rfl rfl rfl ?_
              refine pg_cast (h2 := rI pre post ((fillS (rowS s q b (vk v : Int) (n : Int)) b (k + 1) (fun k => vn v (s.2.2.1 14 k).toNat)).1) ((fillS (rowS s q b (vk v : Int) (n : Int)) b (k + 1) (fun k => vn v (s.2.2.1 14 k).toNat)).2.1) ((fillS (rowS s q b (vk v : Int) (n : Int)) b (k + 1) (fun k => vn v (s.2.2.1 14 k).toNat)).2.2.1) ((fillS (rowS s q b (vk v : Int) (n : Int)) b (k + 1) (fun k => vn v (s.2.2.1 14 k).toNat)).2.2.2)) (fill_s (rowS s q b (vk v : Int) (n : Int)) b k (fun k => vn v (s.2.2.1 14 k).toNat)) ?_
              exact pg_sub (L := [(0, .ref 102), (1, ii (hd : Int)), (2, ii (n : Int)), (3, ii (vk v : Int)), (4, ii (q : Int)), (5, ii ((k + 1) : Int))]) rfl rfl rfl (ih132 (n - (k + 1)) (by omega) (k + 1) rfl (by omega))
        refine pg_cast (h2 := rI pre post ((fillS (rowS s q b (vk v : Int) (n : Int)) b 0 (fun k => vn v (s.2.2.1 14 k).toNat)).1) ((fillS (rowS s q b (vk v : Int) (n : Int)) b 0 (fun k => vn v (s.2.2.1 14 k).toNat)).2.1) ((fillS (rowS s q b (vk v : Int) (n : Int)) b 0 (fun k => vn v (s.2.2.1 14 k).toNat)).2.2.1) ((fillS (rowS s q b (vk v : Int) (n : Int)) b 0 (fun k => vn v (s.2.2.1 14 k).toNat)).2.2.2)) (fill_0 (rowS s q b (vk v : Int) (n : Int)) b (fun k => vn v (s.2.2.1 14 k).toNat)) ?_
        exact pg_sub (L := [(0, .ref 102), (1, ii (hd : Int)), (2, ii (n : Int)), (3, ii (vk v : Int)), (4, ii (q : Int)), (5, ii (0 : Int))]) rfl rfl rfl (lp132 _ 0 rfl (Nat.zero_le _))
      · refine me0 (pc' := 119) (S' := [ii 3, .ref 102]) dm_X12_picked_118 rfl rfl rfl rfl ?_
        refine me2 (pc' := 123) (S' := [ii 3, .ref 102]) dm_X12_picked_119 rfl rfl rfl ?_
        refine me1 (pc' := 124) (L' := [(3, ii (vk v : Int)), (0, .ref 102), (1, ii (hd : Int)), (2, ii (n : Int))]) (S' := [ii (n : Int), ii 3, .ref 102]) dm_X12_picked_123 rfl rfl rfl rfl ?_
        have hpkk : pickk v = 3 := by unfold pickk; rw [if_pos (by omega)]
        refine x_cv (pc' := 127) (rest := []) dm_X12_picked_124 rfl (q_inv (As := [ii 3, ii (n : Int)]) (S := []) hm rfl rfl rfl) rfl rfl rfl (r_row_ (q := q) (b := b) (s := s) hm (by omega) hq hb (by omega) (by omega) (by omega)) ?_
        rintro _ _ ⟨rfl, rfl⟩
        refine me1 (pc' := 129) (L' := [(4, ii (q : Int)), (3, ii (vk v : Int)), (0, .ref 102), (1, ii (hd : Int)), (2, ii (n : Int))]) (S' := []) dm_X12_picked_127 rfl rfl rfl rfl ?_
        refine me0 (pc' := 130) (S' := [ii 0]) dm_X12_picked_129 rfl rfl rfl rfl ?_
        refine me1 (pc' := 132) (L' := [(5, ii 0), (4, ii (q : Int)), (3, ii (vk v : Int)), (0, .ref 102), (1, ii (hd : Int)), (2, ii (n : Int))]) (S' := []) dm_X12_picked_130 rfl rfl rfl rfl ?_
        have lp132 : ∀ (n132 : Nat) (k : Nat), n - k = n132 → (k ≤ n) → pgE xt (d - 1) 12 7 false (Option.some Jvm.ClassFile.FieldType.int) (mj_dec prog_14_method_34_code) 132 [(0, .ref 102), (1, ii (hd : Int)), (2, ii (n : Int)), (3, ii (vk v : Int)), (4, ii (q : Int)), (5, ii (k : Int))] [] (rI pre post ((fillS (rowS s q b 3 (n : Int)) b k (fun k => vn v (s.2.2.1 14 k).toNat)).1) ((fillS (rowS s q b 3 (n : Int)) b k (fun k => vn v (s.2.2.1 14 k).toNat)).2.1) ((fillS (rowS s q b 3 (n : Int)) b k (fun k => vn v (s.2.2.1 14 k).toNat)).2.2.1) ((fillS (rowS s q b 3 (n : Int)) b k (fun k => vn v (s.2.2.1 14 k).toNat)).2.2.2)) (fun r h' => ∃ x, r = some x ∧ rres pre post s (e + 1) (.inr (vpick v (fun k => (s.2.2.1 14 k).toNat) n)) place n 1 x h') := by
          intro n132
          induction n132 using Nat.strongRecOn with
          | ind n132 ih132 =>
            intro k hm132 hk
            refine me1 (pc' := 134) (L' := [(0, .ref 102), (1, ii (hd : Int)), (2, ii (n : Int)), (3, ii (vk v : Int)), (4, ii (q : Int)), (5, ii (k : Int))]) (S' := [ii (k : Int)]) dm_X12_picked_132 rfl rfl rfl rfl ?_
            refine me1 (pc' := 135) (L' := [(0, .ref 102), (1, ii (hd : Int)), (2, ii (n : Int)), (3, ii (vk v : Int)), (4, ii (q : Int)), (5, ii (k : Int))]) (S' := [ii (n : Int), ii (k : Int)]) dm_X12_picked_134 rfl rfl rfl rfl ?_
            refine y_2ge (a := (k : Int)) (b := (n : Int)) (t := 171) (pc' := 138) dm_X12_picked_135 rfl rfl (by omega) (fun hb5 => ?_) (fun hb5 => ?_)
            · refine me1 (pc' := 173) (L' := [(0, .ref 102), (1, ii (hd : Int)), (2, ii (n : Int)), (3, ii (vk v : Int)), (4, ii (q : Int)), (5, ii (k : Int))]) (S' := [ii (q : Int)]) dm_X12_picked_171 rfl rfl rfl rfl ?_
              refine y_ret (r := some (ii (q : Int))) dm_X12_picked_173 rfl rfl rfl ?_
              have hkn : k = n := by omega
              subst hkn
              have hwp := vw1_pick (o := fun k => (s.2.2.1 14 k).toNat) hv.1 (show vk v ≤ 5 by omega) hn (fun j hj => by have := hO j hj; omega)
              rw [vpick_r (by omega), hpkk]
              rw [hpkk] at hwp
              exact ⟨_, rfl, rres_row (kind := 3) hq hq3 hb he0 hwp (by show ¬ 3 = 7; omega) (by show ¬ 3 = 6; omega) rfl rfl rfl (fun j hj => by show vn v _ = vn v _; by_cases z : vk v ≤ 1; (have hz := hv.1.2.1 z; have hOj := hO j hj; rw [if_pos z]; congr 1; omega); rw [if_neg z]) (Nat.le_refl _) (Nat.le_refl _)⟩
            · have hOk := hO k (by omega)
              have hxT : rext s (fillS (rowS s q b 3 (n : Int)) b k (fun k => vn v (s.2.2.1 14 k).toNat)) := rext_fill (rext_row hq hb _ (by omega)) (by omega) _
              have hvX := rv_ext hxT hh3 hv
              have hBX : rB (fillS (rowS s q b 3 (n : Int)) b k (fun k => vn v (s.2.2.1 14 k).toNat)) := ⟨by show 3 ≤ (q : Int) + 1; omega, by show (q : Int) + 1 ≤ 310000; omega, by show 0 ≤ (b : Int) + (n : Int); omega, by show (b : Int) + (n : Int) ≤ 820000; omega⟩
              refine me1 (pc' := 139) (L' := [(0, .ref 102), (1, ii (hd : Int)), (2, ii (n : Int)), (3, ii (vk v : Int)), (4, ii (q : Int)), (5, ii (k : Int))]) (S' := [.ref 102]) dm_X12_picked_138 rfl rfl rfl rfl ?_
              refine me3 (pc' := 142) (S' := [.ref (102 + 1)]) dm_X12_picked_139 (q_getr hm rfl (fun m i l => rg_0 m i l)) rfl rfl rfl ?_
              refine me1 (pc' := 143) (L' := [(0, .ref 102), (1, ii (hd : Int)), (2, ii (n : Int)), (3, ii (vk v : Int)), (4, ii (q : Int)), (5, ii (k : Int))]) (S' := [.ref 102, .ref (102 + 1)]) dm_X12_picked_142 rfl rfl rfl rfl ?_
              refine me3 (pc' := 146) (S' := [.ref (102 + 2), .ref (102 + 1)]) dm_X12_picked_143 (q_getr hm rfl (fun m i l => rg_1 m i l)) rfl rfl rfl ?_
              refine me1 (pc' := 148) (L' := [(0, .ref 102), (1, ii (hd : Int)), (2, ii (n : Int)), (3, ii (vk v : Int)), (4, ii (q : Int)), (5, ii (k : Int))]) (S' := [ii (q : Int), .ref (102 + 2), .ref (102 + 1)]) dm_X12_picked_146 rfl rfl rfl rfl ?_
              refine me3 (pc' := 149) (S' := [ii ((((fillS (rowS s q b 3 (n : Int)) b k (fun k => vn v (s.2.2.1 14 k).toNat)).2.2.1) 1) q), .ref (102 + 1)]) dm_X12_picked_148 (q_iald (v := (((fillS (rowS s q b 3 (n : Int)) b k (fun k => vn v (s.2.2.1 14 k).toNat)).2.2.1) 1) q) (k := 1) (n := 310000) hm (fun m i l I J => rc_1 m i l I J) (by omega) (by omega) (by decide) rfl) rfl rfl rfl ?_
              refine pg_st (S' := [ii (b : Int), .ref (102 + 1)]) (congrArg (fun z => ii z :: [.ref (102 + 1)]) (up_eq _ _ _)) ?_
              refine me1 (pc' := 151) (L' := [(0, .ref 102), (1, ii (hd : Int)), (2, ii (n : Int)), (3, ii (vk v : Int)), (4, ii (q : Int)), (5, ii (k : Int))]) (S' := [ii (k : Int), ii (b : Int), .ref (102 + 1)]) dm_X12_picked_149 rfl rfl rfl rfl ?_
              refine y_iadd (a := (b : Int)) (b := (k : Int)) dm_X12_picked_151 (pc' := 152) rfl ?_
              refine me1 (pc' := 153) (L' := [(0, .ref 102), (1, ii (hd : Int)), (2, ii (n : Int)), (3, ii (vk v : Int)), (4, ii (q : Int)), (5, ii (k : Int))]) (S' := [.ref 102, ii ((b : Int) + (k : Int)), .ref (102 + 1)]) dm_X12_picked_152 rfl rfl rfl rfl ?_
              refine me1 (pc' := 154) (L' := [(0, .ref 102), (1, ii (hd : Int)), (2, ii (n : Int)), (3, ii (vk v : Int)), (4, ii (q : Int)), (5, ii (k : Int))]) (S' := [ii (hd : Int), .ref 102, ii ((b : Int) + (k : Int)), .ref (102 + 1)]) dm_X12_picked_153 rfl rfl rfl rfl ?_
              refine me1 (pc' := 155) (L' := [(0, .ref 102), (1, ii (hd : Int)), (2, ii (n : Int)), (3, ii (vk v : Int)), (4, ii (q : Int)), (5, ii (k : Int))]) (S' := [.ref 102, ii (hd : Int), .ref 102, ii ((b : Int) + (k : Int)), .ref (102 + 1)]) dm_X12_picked_154 rfl rfl rfl rfl ?_
              refine me3 (pc' := 158) (S' := [.ref (102 + 5), ii (hd : Int), .ref 102, ii ((b : Int) + (k : Int)), .ref (102 + 1)]) dm_X12_picked_155 (q_getr hm rfl (fun m i l => rg_14 m i l)) rfl rfl rfl ?_
              refine me1 (pc' := 160) (L' := [(0, .ref 102), (1, ii (hd : Int)), (2, ii (n : Int)), (3, ii (vk v : Int)), (4, ii (q : Int)), (5, ii (k : Int))]) (S' := [ii (k : Int), .ref (102 + 5), ii (hd : Int), .ref 102, ii ((b : Int) + (k : Int)), .ref (102 + 1)]) dm_X12_picked_158 rfl rfl rfl rfl ?_
              refine me3 (pc' := 161) (S' := [ii ((((fillS (rowS s q b 3 (n : Int)) b k (fun k => vn v (s.2.2.1 14 k).toNat)).2.2.1) 14) k), ii (hd : Int), .ref 102, ii ((b : Int) + (k : Int)), .ref (102 + 1)]) dm_X12_picked_160 (q_iald (v := (((fillS (rowS s q b 3 (n : Int)) b k (fun k => vn v (s.2.2.1 14 k).toNat)).2.2.1) 14) k) (k := 14) (n := 260) hm (fun m i l I J => rc_14 m i l I J) (by omega) (by omega) (by decide) rfl) rfl rfl rfl ?_
              refine pg_st (S' := [ii ((s.2.2.1 14 k).toNat : Int), ii (hd : Int), .ref 102, ii ((b : Int) + (k : Int)), .ref (102 + 1)]) (by rw [show ((((fillS (rowS s q b 3 (n : Int)) b k (fun k => vn v (s.2.2.1 14 k).toNat)).2.2.1) 14) k : Int) = (((s.2.2.1 14 k).toNat : Nat) : Int) from (Int.toNat_of_nonneg hOk.1).symm]) ?_
              refine x_cp (pc' := 164) (v := .long (vn v ((s.2.2.1 14 k).toNat))) (rest := [ii ((b : Int) + (k : Int)), .ref (102 + 1)]) dm_X12_picked_161 rfl (q_inv (As := [ii (hd : Int), ii ((s.2.2.1 14 k).toNat : Int)]) (S := [ii ((b : Int) + (k : Int)), .ref (102 + 1)]) hm rfl rfl rfl) rfl rfl rfl (r_number_ (k := (s.2.2.1 14 k).toNat) hm (by omega) hBX hvX (by omega) (by omega)) ?_
              refine me3 (pc' := 165) (S' := []) (h1 := rI pre post ((fillS (rowS s q b 3 (n : Int)) b k (fun k => vn v (s.2.2.1 14 k).toNat)).1) ((fillS (rowS s q b 3 (n : Int)) b k (fun k => vn v (s.2.2.1 14 k).toNat)).2.1) ((fillS (rowS s q b 3 (n : Int)) b k (fun k => vn v (s.2.2.1 14 k).toNat)).2.2.1) (va_up ((fillS (rowS s q b 3 (n : Int)) b k (fun k => vn v (s.2.2.1 14 k).toNat)).2.2.2) 0 (va_up (((fillS (rowS s q b 3 (n : Int)) b k (fun k => vn v (s.2.2.1 14 k).toNat)).2.2.2) 0) (b + k) (vn v ((s.2.2.1 14 k).toNat))))) dm_X12_picked_164 (q_last (j := (b : Int) + (k : Int)) (k := 0) (n := 820000) hm (fun m i l I J => rc_0 m i l I J) (fun m i l I J f => rs_0 m i l I J f) (by omega) (by omega) (by decide)) rfl rfl rfl ?_
              refine y_iinc (pc' := 168) (L' := [(5, ii ((k : Int) + 1)), (0, .ref 102), (1, ii (hd : Int)), (2, ii (n : Int)), (3, ii (vk v : Int)), (4, ii (q : Int))]) dm_X12_picked_165 (y_incp (a := (k : Int)) (c := 1) rfl rfl (by decide)) rfl ?_
              refine me2 (pc' := 132) (S' := []) dm_X12_picked_168 rfl rfl rfl ?_
              refine pg_cast (h2 := rI pre post ((fillS (rowS s q b 3 (n : Int)) b (k + 1) (fun k => vn v (s.2.2.1 14 k).toNat)).1) ((fillS (rowS s q b 3 (n : Int)) b (k + 1) (fun k => vn v (s.2.2.1 14 k).toNat)).2.1) ((fillS (rowS s q b 3 (n : Int)) b (k + 1) (fun k => vn v (s.2.2.1 14 k).toNat)).2.2.1) ((fillS (rowS s q b 3 (n : Int)) b (k + 1) (fun k => vn v (s.2.2.1 14 k).toNat)).2.2.2)) (fill_s (rowS s q b 3 (n : Int)) b k (fun k => vn v (s.2.2.1 14 k).toNat)) ?_
              exact pg_sub (L := [(0, .ref 102), (1, ii (hd : Int)), (2, ii (n : Int)), (3, ii (vk v : Int)), (4, ii (q : Int)), (5, ii ((k + 1) : Int))]) rfl rfl rfl (ih132 (n - (k + 1)) (by omega) (k + 1) rfl (by omega))
        refine pg_cast (h2 := rI pre post ((fillS (rowS s q b 3 (n : Int)) b 0 (fun k => vn v (s.2.2.1 14 k).toNat)).1) ((fillS (rowS s q b 3 (n : Int)) b 0 (fun k => vn v (s.2.2.1 14 k).toNat)).2.1) ((fillS (rowS s q b 3 (n : Int)) b 0 (fun k => vn v (s.2.2.1 14 k).toNat)).2.2.1) ((fillS (rowS s q b 3 (n : Int)) b 0 (fun k => vn v (s.2.2.1 14 k).toNat)).2.2.2)) (fill_0 (rowS s q b 3 (n : Int)) b (fun k => vn v (s.2.2.1 14 k).toNat)) ?_
        exact pg_sub (L := [(0, .ref 102), (1, ii (hd : Int)), (2, ii (n : Int)), (3, ii (vk v : Int)), (4, ii (q : Int)), (5, ii (0 : Int))]) rfl rfl rfl (lp132 _ 0 rfl (Nat.zero_le _))
    · refine me1 (pc' := 94) (L' := [(3, ii (vk v : Int)), (0, .ref 102), (1, ii (hd : Int)), (2, ii (n : Int))]) (S' := [.ref 102, .ref 102]) dm_X12_picked_93 rfl rfl rfl rfl ?_
      refine me1 (pc' := 95) (L' := [(3, ii (vk v : Int)), (0, .ref 102), (1, ii (hd : Int)), (2, ii (n : Int))]) (S' := [ii (hd : Int), .ref 102, .ref 102]) dm_X12_picked_94 rfl rfl rfl rfl ?_
      refine me0 (pc' := 96) (S' := [ii 0, ii (hd : Int), .ref 102, .ref 102]) dm_X12_picked_95 rfl rfl rfl rfl ?_
      refine x_cp (pc' := 99) (v := .long (vn v 0)) (rest := [.ref 102]) dm_X12_picked_96 rfl (q_inv (As := [ii (hd : Int), ii 0]) (S := [.ref 102]) hm rfl rfl rfl) rfl rfl rfl (r_number_ (k := 0) hm (by omega) hB0 hv (by omega) (by omega)) ?_
      refine x_cp (pc' := 102) (v := zz (fitsB (vn v 0))) (rest := [.ref 102]) dm_X12_picked_99 rfl (g_invs (As := [.long (vn v 0)]) (S := [.ref 102]) rfl rfl rfl) rfl rfl rfl (r_fits_ (by omega)) ?_
      refine y_zeq (c := fitsB (vn v 0)) (t := 109) (pc' := 105) dm_X12_picked_102 rfl rfl (fun hb6 => ?_) (fun hb6 => ?_)
      · refine me0 (pc' := 110) (S' := [ii 5, .ref 102]) dm_X12_picked_109 rfl rfl rfl rfl ?_
        refine me2 (pc' := 123) (S' := [ii 5, .ref 102]) dm_X12_picked_110 rfl rfl rfl ?_
        refine me1 (pc' := 124) (L' := [(3, ii (vk v : Int)), (0, .ref 102), (1, ii (hd : Int)), (2, ii (n : Int))]) (S' := [ii (n : Int), ii 5, .ref 102]) dm_X12_picked_123 rfl rfl rfl rfl ?_
        have hpkk : pickk v = 5 := by unfold pickk; rw [if_neg (by omega), if_pos (by omega), if_neg (by rw [hb6]; decide)]
        refine x_cv (pc' := 127) (rest := []) dm_X12_picked_124 rfl (q_inv (As := [ii 5, ii (n : Int)]) (S := []) hm rfl rfl rfl) rfl rfl rfl (r_row_ (q := q) (b := b) (s := s) hm (by omega) hq hb (by omega) (by omega) (by omega)) ?_
        rintro _ _ ⟨rfl, rfl⟩
        refine me1 (pc' := 129) (L' := [(4, ii (q : Int)), (3, ii (vk v : Int)), (0, .ref 102), (1, ii (hd : Int)), (2, ii (n : Int))]) (S' := []) dm_X12_picked_127 rfl rfl rfl rfl ?_
        refine me0 (pc' := 130) (S' := [ii 0]) dm_X12_picked_129 rfl rfl rfl rfl ?_
        refine me1 (pc' := 132) (L' := [(5, ii 0), (4, ii (q : Int)), (3, ii (vk v : Int)), (0, .ref 102), (1, ii (hd : Int)), (2, ii (n : Int))]) (S' := []) dm_X12_picked_130 rfl rfl rfl rfl ?_
        have lp132 : ∀ (n132 : Nat) (k : Nat), n - k = n132 → (k ≤ n) → pgE xt (d - 1) 12 7 false (Option.some Jvm.ClassFile.FieldType.int) (mj_dec prog_14_method_34_code) 132 [(0, .ref 102), (1, ii (hd : Int)), (2, ii (n : Int)), (3, ii (vk v : Int)), (4, ii (q : Int)), (5, ii (k : Int))] [] (rI pre post ((fillS (rowS s q b 5 (n : Int)) b k (fun k => vn v (s.2.2.1 14 k).toNat)).1) ((fillS (rowS s q b 5 (n : Int)) b k (fun k => vn v (s.2.2.1 14 k).toNat)).2.1) ((fillS (rowS s q b 5 (n : Int)) b k (fun k => vn v (s.2.2.1 14 k).toNat)).2.2.1) ((fillS (rowS s q b 5 (n : Int)) b k (fun k => vn v (s.2.2.1 14 k).toNat)).2.2.2)) (fun r h' => ∃ x, r = some x ∧ rres pre post s (e + 1) (.inr (vpick v (fun k => (s.2.2.1 14 k).toNat) n)) place n 1 x h') := by
          intro n132
          induction n132 using Nat.strongRecOn with
          | ind n132 ih132 =>
            intro k hm132 hk
            refine me1 (pc' := 134) (L' := [(0, .ref 102), (1, ii (hd : Int)), (2, ii (n : Int)), (3, ii (vk v : Int)), (4, ii (q : Int)), (5, ii (k : Int))]) (S' := [ii (k : Int)]) dm_X12_picked_132 rfl rfl rfl rfl ?_
            refine me1 (pc' := 135) (L' := [(0, .ref 102), (1, ii (hd : Int)), (2, ii (n : Int)), (3, ii (vk v : Int)), (4, ii (q : Int)), (5, ii (k : Int))]) (S' := [ii (n : Int), ii (k : Int)]) dm_X12_picked_134 rfl rfl rfl rfl ?_
            refine y_2ge (a := (k : Int)) (b := (n : Int)) (t := 171) (pc' := 138) dm_X12_picked_135 rfl rfl (by omega) (fun hb7 => ?_) (fun hb7 => ?_)
            · refine me1 (pc' := 173) (L' := [(0, .ref 102), (1, ii (hd : Int)), (2, ii (n : Int)), (3, ii (vk v : Int)), (4, ii (q : Int)), (5, ii (k : Int))]) (S' := [ii (q : Int)]) dm_X12_picked_171 rfl rfl rfl rfl ?_
              refine y_ret (r := some (ii (q : Int))) dm_X12_picked_173 rfl rfl rfl ?_
              have hkn : k = n := by omega
              subst hkn
              have hwp := vw1_pick (o := fun k => (s.2.2.1 14 k).toNat) hv.1 (show vk v ≤ 5 by omega) hn (fun j hj => by have := hO j hj; omega)
              rw [vpick_r (by omega), hpkk]
              rw [hpkk] at hwp
              exact ⟨_, rfl, rres_row (kind := 5) hq hq3 hb he0 hwp (by show ¬ 5 = 7; omega) (by show ¬ 5 = 6; omega) rfl rfl rfl (fun j hj => by show vn v _ = vn v _; by_cases z : vk v ≤ 1; (have hz := hv.1.2.1 z; have hOj := hO j hj; rw [if_pos z]; congr 1; omega); rw [if_neg z]) (Nat.le_refl _) (Nat.le_refl _)⟩
            · have hOk := hO k (by omega)
              have hxT : rext s (fillS (rowS s q b 5 (n : Int)) b k (fun k => vn v (s.2.2.1 14 k).toNat)) := rext_fill (rext_row hq hb _ (by omega)) (by omega) _
              have hvX := rv_ext hxT hh3 hv
              have hBX : rB (fillS (rowS s q b 5 (n : Int)) b k (fun k => vn v (s.2.2.1 14 k).toNat)) := ⟨by show 3 ≤ (q : Int) + 1; omega, by show (q : Int) + 1 ≤ 310000; omega, by show 0 ≤ (b : Int) + (n : Int); omega, by show (b : Int) + (n : Int) ≤ 820000; omega⟩
              refine me1 (pc' := 139) (L' := [(0, .ref 102), (1, ii (hd : Int)), (2, ii (n : Int)), (3, ii (vk v : Int)), (4, ii (q : Int)), (5, ii (k : Int))]) (S' := [.ref 102]) dm_X12_picked_138 rfl rfl rfl rfl ?_
              refine me3 (pc' := 142) (S' := [.ref (102 + 1)]) dm_X12_picked_139 (q_getr hm rfl (fun m i l => rg_0 m i l)) rfl rfl rfl ?_
              refine me1 (pc' := 143) (L' := [(0, .ref 102), (1, ii (hd : Int)), (2, ii (n : Int)), (3, ii (vk v : Int)), (4, ii (q : Int)), (5, ii (k : Int))]) (S' := [.ref 102, .ref (102 + 1)]) dm_X12_picked_142 rfl rfl rfl rfl ?_
              refine me3 (pc' := 146) (S' := [.ref (102 + 2), .ref (102 + 1)]) dm_X12_picked_143 (q_getr hm rfl (fun m i l => rg_1 m i l)) rfl rfl rfl ?_
              refine me1 (pc' := 148) (L' := [(0, .ref 102), (1, ii (hd : Int)), (2, ii (n : Int)), (3, ii (vk v : Int)), (4, ii (q : Int)), (5, ii (k : Int))]) (S' := [ii (q : Int), .ref (102 + 2), .ref (102 + 1)]) dm_X12_picked_146 rfl rfl rfl rfl ?_
              refine me3 (pc' := 149) (S' := [ii ((((fillS (rowS s q b 5 (n : Int)) b k (fun k => vn v (s.2.2.1 14 k).toNat)).2.2.1) 1) q), .ref (102 + 1)]) dm_X12_picked_148 (q_iald (v := (((fillS (rowS s q b 5 (n : Int)) b k (fun k => vn v (s.2.2.1 14 k).toNat)).2.2.1) 1) q) (k := 1) (n := 310000) hm (fun m i l I J => rc_1 m i l I J) (by omega) (by omega) (by decide) rfl) rfl rfl rfl ?_
              refine pg_st (S' := [ii (b : Int), .ref (102 + 1)]) (congrArg (fun z => ii z :: [.ref (102 + 1)]) (up_eq _ _ _)) ?_
              refine me1 (pc' := 151) (L' := [(0, .ref 102), (1, ii (hd : Int)), (2, ii (n : Int)), (3, ii (vk v : Int)), (4, ii (q : Int)), (5, ii (k : Int))]) (S' := [ii (k : Int), ii (b : Int), .ref (102 + 1)]) dm_X12_picked_149 rfl rfl rfl rfl ?_
              refine y_iadd (a := (b : Int)) (b := (k : Int)) dm_X12_picked_151 (pc' := 152) rfl ?_
              refine me1 (pc' := 153) (L' := [(0, .ref 102), (1, ii (hd : Int)), (2, ii (n : Int)), (3, ii (vk v : Int)), (4, ii (q : Int)), (5, ii (k : Int))]) (S' := [.ref 102, ii ((b : Int) + (k : Int)), .ref (102 + 1)]) dm_X12_picked_152 rfl rfl rfl rfl ?_
              refine me1 (pc' := 154) (L' := [(0, .ref 102), (1, ii (hd : Int)), (2, ii (n : Int)), (3, ii (vk v : Int)), (4, ii (q : Int)), (5, ii (k : Int))]) (S' := [ii (hd : Int), .ref 102, ii ((b : Int) + (k : Int)), .ref (102 + 1)]) dm_X12_picked_153 rfl rfl rfl rfl ?_
              refine me1 (pc' := 155) (L' := [(0, .ref 102), (1, ii (hd : Int)), (2, ii (n : Int)), (3, ii (vk v : Int)), (4, ii (q : Int)), (5, ii (k : Int))]) (S' := [.ref 102, ii (hd : Int), .ref 102, ii ((b : Int) + (k : Int)), .ref (102 + 1)]) dm_X12_picked_154 rfl rfl rfl rfl ?_
              refine me3 (pc' := 158) (S' := [.ref (102 + 5), ii (hd : Int), .ref 102, ii ((b : Int) + (k : Int)), .ref (102 + 1)]) dm_X12_picked_155 (q_getr hm rfl (fun m i l => rg_14 m i l)) rfl rfl rfl ?_
              refine me1 (pc' := 160) (L' := [(0, .ref 102), (1, ii (hd : Int)), (2, ii (n : Int)), (3, ii (vk v : Int)), (4, ii (q : Int)), (5, ii (k : Int))]) (S' := [ii (k : Int), .ref (102 + 5), ii (hd : Int), .ref 102, ii ((b : Int) + (k : Int)), .ref (102 + 1)]) dm_X12_picked_158 rfl rfl rfl rfl ?_
              refine me3 (pc' := 161) (S' := [ii ((((fillS (rowS s q b 5 (n : Int)) b k (fun k => vn v (s.2.2.1 14 k).toNat)).2.2.1) 14) k), ii (hd : Int), .ref 102, ii ((b : Int) + (k : Int)), .ref (102 + 1)]) dm_X12_picked_160 (q_iald (v := (((fillS (rowS s q b 5 (n : Int)) b k (fun k => vn v (s.2.2.1 14 k).toNat)).2.2.1) 14) k) (k := 14) (n := 260) hm (fun m i l I J => rc_14 m i l I J) (by omega) (by omega) (by decide) rfl) rfl rfl rfl ?_
              refine pg_st (S' := [ii ((s.2.2.1 14 k).toNat : Int), ii (hd : Int), .ref 102, ii ((b : Int) + (k : Int)), .ref (102 + 1)]) (by rw [show ((((fillS (rowS s q b 5 (n : Int)) b k (fun k => vn v (s.2.2.1 14 k).toNat)).2.2.1) 14) k : Int) = (((s.2.2.1 14 k).toNat : Nat) : Int) from (Int.toNat_of_nonneg hOk.1).symm]) ?_
              refine x_cp (pc' := 164) (v := .long (vn v ((s.2.2.1 14 k).toNat))) (rest := [ii ((b : Int) + (k : Int)), .ref (102 + 1)]) dm_X12_picked_161 rfl (q_inv (As := [ii (hd : Int), ii ((s.2.2.1 14 k).toNat : Int)]) (S := [ii ((b : Int) + (k : Int)), .ref (102 + 1)]) hm rfl rfl rfl) rfl rfl rfl (r_number_ (k := (s.2.2.1 14 k).toNat) hm (by omega) hBX hvX (by omega) (by omega)) ?_
              refine me3 (pc' := 165) (S' := []) (h1 := rI pre post ((fillS (rowS s q b 5 (n : Int)) b k (fun k => vn v (s.2.2.1 14 k).toNat)).1) ((fillS (rowS s q b 5 (n : Int)) b k (fun k => vn v (s.2.2.1 14 k).toNat)).2.1) ((fillS (rowS s q b 5 (n : Int)) b k (fun k => vn v (s.2.2.1 14 k).toNat)).2.2.1) (va_up ((fillS (rowS s q b 5 (n : Int)) b k (fun k => vn v (s.2.2.1 14 k).toNat)).2.2.2) 0 (va_up (((fillS (rowS s q b 5 (n : Int)) b k (fun k => vn v (s.2.2.1 14 k).toNat)).2.2.2) 0) (b + k) (vn v ((s.2.2.1 14 k).toNat))))) dm_X12_picked_164 (q_last (j := (b : Int) + (k : Int)) (k := 0) (n := 820000) hm (fun m i l I J => rc_0 m i l I J) (fun m i l I J f => rs_0 m i l I J f) (by omega) (by omega) (by decide)) rfl rfl rfl ?_
              refine y_iinc (pc' := 168) (L' := [(5, ii ((k : Int) + 1)), (0, .ref 102), (1, ii (hd : Int)), (2, ii (n : Int)), (3, ii (vk v : Int)), (4, ii (q : Int))]) dm_X12_picked_165 (y_incp (a := (k : Int)) (c := 1) rfl rfl (by decide)) rfl ?_
              refine me2 (pc' := 132) (S' := []) dm_X12_picked_168 rfl rfl rfl ?_
              refine pg_cast (h2 := rI pre post ((fillS (rowS s q b 5 (n : Int)) b (k + 1) (fun k => vn v (s.2.2.1 14 k).toNat)).1) ((fillS (rowS s q b 5 (n : Int)) b (k + 1) (fun k => vn v (s.2.2.1 14 k).toNat)).2.1) ((fillS (rowS s q b 5 (n : Int)) b (k + 1) (fun k => vn v (s.2.2.1 14 k).toNat)).2.2.1) ((fillS (rowS s q b 5 (n : Int)) b (k + 1) (fun k => vn v (s.2.2.1 14 k).toNat)).2.2.2)) (fill_s (rowS s q b 5 (n : Int)) b k (fun k => vn v (s.2.2.1 14 k).toNat)) ?_
              exact pg_sub (L := [(0, .ref 102), (1, ii (hd : Int)), (2, ii (n : Int)), (3, ii (vk v : Int)), (4, ii (q : Int)), (5, ii ((k + 1) : Int))]) rfl rfl rfl (ih132 (n - (k + 1)) (by omega) (k + 1) rfl (by omega))
        refine pg_cast (h2 := rI pre post ((fillS (rowS s q b 5 (n : Int)) b 0 (fun k => vn v (s.2.2.1 14 k).toNat)).1) ((fillS (rowS s q b 5 (n : Int)) b 0 (fun k => vn v (s.2.2.1 14 k).toNat)).2.1) ((fillS (rowS s q b 5 (n : Int)) b 0 (fun k => vn v (s.2.2.1 14 k).toNat)).2.2.1) ((fillS (rowS s q b 5 (n : Int)) b 0 (fun k => vn v (s.2.2.1 14 k).toNat)).2.2.2)) (fill_0 (rowS s q b 5 (n : Int)) b (fun k => vn v (s.2.2.1 14 k).toNat)) ?_
        exact pg_sub (L := [(0, .ref 102), (1, ii (hd : Int)), (2, ii (n : Int)), (3, ii (vk v : Int)), (4, ii (q : Int)), (5, ii (0 : Int))]) rfl rfl rfl (lp132 _ 0 rfl (Nat.zero_le _))
      · refine me0 (pc' := 106) (S' := [ii 4, .ref 102]) dm_X12_picked_105 rfl rfl rfl rfl ?_
        refine me2 (pc' := 123) (S' := [ii 4, .ref 102]) dm_X12_picked_106 rfl rfl rfl ?_
        refine me1 (pc' := 124) (L' := [(3, ii (vk v : Int)), (0, .ref 102), (1, ii (hd : Int)), (2, ii (n : Int))]) (S' := [ii (n : Int), ii 4, .ref 102]) dm_X12_picked_123 rfl rfl rfl rfl ?_
        have hpkk : pickk v = 4 := by unfold pickk; rw [if_neg (by omega), if_pos (by omega), if_pos hb6]
        refine x_cv (pc' := 127) (rest := []) dm_X12_picked_124 rfl (q_inv (As := [ii 4, ii (n : Int)]) (S := []) hm rfl rfl rfl) rfl rfl rfl (r_row_ (q := q) (b := b) (s := s) hm (by omega) hq hb (by omega) (by omega) (by omega)) ?_
        rintro _ _ ⟨rfl, rfl⟩
        refine me1 (pc' := 129) (L' := [(4, ii (q : Int)), (3, ii (vk v : Int)), (0, .ref 102), (1, ii (hd : Int)), (2, ii (n : Int))]) (S' := []) dm_X12_picked_127 rfl rfl rfl rfl ?_
        refine me0 (pc' := 130) (S' := [ii 0]) dm_X12_picked_129 rfl rfl rfl rfl ?_
        refine me1 (pc' := 132) (L' := [(5, ii 0), (4, ii (q : Int)), (3, ii (vk v : Int)), (0, .ref 102), (1, ii (hd : Int)), (2, ii (n : Int))]) (S' := []) dm_X12_picked_130 rfl rfl rfl rfl ?_
        have lp132 : ∀ (n132 : Nat) (k : Nat), n - k = n132 → (k ≤ n) → pgE xt (d - 1) 12 7 false (Option.some Jvm.ClassFile.FieldType.int) (mj_dec prog_14_method_34_code) 132 [(0, .ref 102), (1, ii (hd : Int)), (2, ii (n : Int)), (3, ii (vk v : Int)), (4, ii (q : Int)), (5, ii (k : Int))] [] (rI pre post ((fillS (rowS s q b 4 (n : Int)) b k (fun k => vn v (s.2.2.1 14 k).toNat)).1) ((fillS (rowS s q b 4 (n : Int)) b k (fun k => vn v (s.2.2.1 14 k).toNat)).2.1) ((fillS (rowS s q b 4 (n : Int)) b k (fun k => vn v (s.2.2.1 14 k).toNat)).2.2.1) ((fillS (rowS s q b 4 (n : Int)) b k (fun k => vn v (s.2.2.1 14 k).toNat)).2.2.2)) (fun r h' => ∃ x, r = some x ∧ rres pre post s (e + 1) (.inr (vpick v (fun k => (s.2.2.1 14 k).toNat) n)) place n 1 x h') := by
          intro n132
          induction n132 using Nat.strongRecOn with
          | ind n132 ih132 =>
            intro k hm132 hk
            refine me1 (pc' := 134) (L' := [(0, .ref 102), (1, ii (hd : Int)), (2, ii (n : Int)), (3, ii (vk v : Int)), (4, ii (q : Int)), (5, ii (k : Int))]) (S' := [ii (k : Int)]) dm_X12_picked_132 rfl rfl rfl rfl ?_
            refine me1 (pc' := 135) (L' := [(0, .ref 102), (1, ii (hd : Int)), (2, ii (n : Int)), (3, ii (vk v : Int)), (4, ii (q : Int)), (5, ii (k : Int))]) (S' := [ii (n : Int), ii (k : Int)]) dm_X12_picked_134 rfl rfl rfl rfl ?_
            refine y_2ge (a := (k : Int)) (b := (n : Int)) (t := 171) (pc' := 138) dm_X12_picked_135 rfl rfl (by omega) (fun hb8 => ?_) (fun hb8 => ?_)
            · refine me1 (pc' := 173) (L' := [(0, .ref 102), (1, ii (hd : Int)), (2, ii (n : Int)), (3, ii (vk v : Int)), (4, ii (q : Int)), (5, ii (k : Int))]) (S' := [ii (q : Int)]) dm_X12_picked_171 rfl rfl rfl rfl ?_
              refine y_ret (r := some (ii (q : Int))) dm_X12_picked_173 rfl rfl rfl ?_
              have hkn : k = n := by omega
              subst hkn
              have hwp := vw1_pick (o := fun k => (s.2.2.1 14 k).toNat) hv.1 (show vk v ≤ 5 by omega) hn (fun j hj => by have := hO j hj; omega)
              rw [vpick_r (by omega), hpkk]
              rw [hpkk] at hwp
              exact ⟨_, rfl, rres_row (kind := 4) hq hq3 hb he0 hwp (by show ¬ 4 = 7; omega) (by show ¬ 4 = 6; omega) rfl rfl rfl (fun j hj => by show vn v _ = vn v _; by_cases z : vk v ≤ 1; (have hz := hv.1.2.1 z; have hOj := hO j hj; rw [if_pos z]; congr 1; omega); rw [if_neg z]) (Nat.le_refl _) (Nat.le_refl _)⟩
            · have hOk := hO k (by omega)
              have hxT : rext s (fillS (rowS s q b 4 (n : Int)) b k (fun k => vn v (s.2.2.1 14 k).toNat)) := rext_fill (rext_row hq hb _ (by omega)) (by omega) _
              have hvX := rv_ext hxT hh3 hv
              have hBX : rB (fillS (rowS s q b 4 (n : Int)) b k (fun k => vn v (s.2.2.1 14 k).toNat)) := ⟨by show 3 ≤ (q : Int) + 1; omega, by show (q : Int) + 1 ≤ 310000; omega, by show 0 ≤ (b : Int) + (n : Int); omega, by show (b : Int) + (n : Int) ≤ 820000; omega⟩
              refine me1 (pc' := 139) (L' := [(0, .ref 102), (1, ii (hd : Int)), (2, ii (n : Int)), (3, ii (vk v : Int)), (4, ii (q : Int)), (5, ii (k : Int))]) (S' := [.ref 102]) dm_X12_picked_138 rfl rfl rfl rfl ?_
              refine me3 (pc' := 142) (S' := [.ref (102 + 1)]) dm_X12_picked_139 (q_getr hm rfl (fun m i l => rg_0 m i l)) rfl rfl rfl ?_
              refine me1 (pc' := 143) (L' := [(0, .ref 102), (1, ii (hd : Int)), (2, ii (n : Int)), (3, ii (vk v : Int)), (4, ii (q : Int)), (5, ii (k : Int))]) (S' := [.ref 102, .ref (102 + 1)]) dm_X12_picked_142 rfl rfl rfl rfl ?_
              refine me3 (pc' := 146) (S' := [.ref (102 + 2), .ref (102 + 1)]) dm_X12_picked_143 (q_getr hm rfl (fun m i l => rg_1 m i l)) rfl rfl rfl ?_
              refine me1 (pc' := 148) (L' := [(0, .ref 102), (1, ii (hd : Int)), (2, ii (n : Int)), (3, ii (vk v : Int)), (4, ii (q : Int)), (5, ii (k : Int))]) (S' := [ii (q : Int), .ref (102 + 2), .ref (102 + 1)]) dm_X12_picked_146 rfl rfl rfl rfl ?_
              refine me3 (pc' := 149) (S' := [ii ((((fillS (rowS s q b 4 (n : Int)) b k (fun k => vn v (s.2.2.1 14 k).toNat)).2.2.1) 1) q), .ref (102 + 1)]) dm_X12_picked_148 (q_iald (v := (((fillS (rowS s q b 4 (n : Int)) b k (fun k => vn v (s.2.2.1 14 k).toNat)).2.2.1) 1) q) (k := 1) (n := 310000) hm (fun m i l I J => rc_1 m i l I J) (by omega) (by omega) (by decide) rfl) rfl rfl rfl ?_
              refine pg_st (S' := [ii (b : Int), .ref (102 + 1)]) (congrArg (fun z => ii z :: [.ref (102 + 1)]) (up_eq _ _ _)) ?_
              refine me1 (pc' := 151) (L' := [(0, .ref 102), (1, ii (hd : Int)), (2, ii (n : Int)), (3, ii (vk v : Int)), (4, ii (q : Int)), (5, ii (k : Int))]) (S' := [ii (k : Int), ii (b : Int), .ref (102 + 1)]) dm_X12_picked_149 rfl rfl rfl rfl ?_
              refine y_iadd (a := (b : Int)) (b := (k : Int)) dm_X12_picked_151 (pc' := 152) rfl ?_
              refine me1 (pc' := 153) (L' := [(0, .ref 102), (1, ii (hd : Int)), (2, ii (n : Int)), (3, ii (vk v : Int)), (4, ii (q : Int)), (5, ii (k : Int))]) (S' := [.ref 102, ii ((b : Int) + (k : Int)), .ref (102 + 1)]) dm_X12_picked_152 rfl rfl rfl rfl ?_
              refine me1 (pc' := 154) (L' := [(0, .ref 102), (1, ii (hd : Int)), (2, ii (n : Int)), (3, ii (vk v : Int)), (4, ii (q : Int)), (5, ii (k : Int))]) (S' := [ii (hd : Int), .ref 102, ii ((b : Int) + (k : Int)), .ref (102 + 1)]) dm_X12_picked_153 rfl rfl rfl rfl ?_
              refine me1 (pc' := 155) (L' := [(0, .ref 102), (1, ii (hd : Int)), (2, ii (n : Int)), (3, ii (vk v : Int)), (4, ii (q : Int)), (5, ii (k : Int))]) (S' := [.ref 102, ii (hd : Int), .ref 102, ii ((b : Int) + (k : Int)), .ref (102 + 1)]) dm_X12_picked_154 rfl rfl rfl rfl ?_
              refine me3 (pc' := 158) (S' := [.ref (102 + 5), ii (hd : Int), .ref 102, ii ((b : Int) + (k : Int)), .ref (102 + 1)]) dm_X12_picked_155 (q_getr hm rfl (fun m i l => rg_14 m i l)) rfl rfl rfl ?_
              refine me1 (pc' := 160) (L' := [(0, .ref 102), (1, ii (hd : Int)), (2, ii (n : Int)), (3, ii (vk v : Int)), (4, ii (q : Int)), (5, ii (k : Int))]) (S' := [ii (k : Int), .ref (102 + 5), ii (hd : Int), .ref 102, ii ((b : Int) + (k : Int)), .ref (102 + 1)]) dm_X12_picked_158 rfl rfl rfl rfl ?_
              refine me3 (pc' := 161) (S' := [ii ((((fillS (rowS s q b 4 (n : Int)) b k (fun k => vn v (s.2.2.1 14 k).toNat)).2.2.1) 14) k), ii (hd : Int), .ref 102, ii ((b : Int) + (k : Int)), .ref (102 + 1)]) dm_X12_picked_160 (q_iald (v := (((fillS (rowS s q b 4 (n : Int)) b k (fun k => vn v (s.2.2.1 14 k).toNat)).2.2.1) 14) k) (k := 14) (n := 260) hm (fun m i l I J => rc_14 m i l I J) (by omega) (by omega) (by decide) rfl) rfl rfl rfl ?_
              refine pg_st (S' := [ii ((s.2.2.1 14 k).toNat : Int), ii (hd : Int), .ref 102, ii ((b : Int) + (k : Int)), .ref (102 + 1)]) (by rw [show ((((fillS (rowS s q b 4 (n : Int)) b k (fun k => vn v (s.2.2.1 14 k).toNat)).2.2.1) 14) k : Int) = (((s.2.2.1 14 k).toNat : Nat) : Int) from (Int.toNat_of_nonneg hOk.1).symm]) ?_
              refine x_cp (pc' := 164) (v := .long (vn v ((s.2.2.1 14 k).toNat))) (rest := [ii ((b : Int) + (k : Int)), .ref (102 + 1)]) dm_X12_picked_161 rfl (q_inv (As := [ii (hd : Int), ii ((s.2.2.1 14 k).toNat : Int)]) (S := [ii ((b : Int) + (k : Int)), .ref (102 + 1)]) hm rfl rfl rfl) rfl rfl rfl (r_number_ (k := (s.2.2.1 14 k).toNat) hm (by omega) hBX hvX (by omega) (by omega)) ?_
              refine me3 (pc' := 165) (S' := []) (h1 := rI pre post ((fillS (rowS s q b 4 (n : Int)) b k (fun k => vn v (s.2.2.1 14 k).toNat)).1) ((fillS (rowS s q b 4 (n : Int)) b k (fun k => vn v (s.2.2.1 14 k).toNat)).2.1) ((fillS (rowS s q b 4 (n : Int)) b k (fun k => vn v (s.2.2.1 14 k).toNat)).2.2.1) (va_up ((fillS (rowS s q b 4 (n : Int)) b k (fun k => vn v (s.2.2.1 14 k).toNat)).2.2.2) 0 (va_up (((fillS (rowS s q b 4 (n : Int)) b k (fun k => vn v (s.2.2.1 14 k).toNat)).2.2.2) 0) (b + k) (vn v ((s.2.2.1 14 k).toNat))))) dm_X12_picked_164 (q_last (j := (b : Int) + (k : Int)) (k := 0) (n := 820000) hm (fun m i l I J => rc_0 m i l I J) (fun m i l I J f => rs_0 m i l I J f) (by omega) (by omega) (by decide)) rfl rfl rfl ?_
              refine y_iinc (pc' := 168) (L' := [(5, ii ((k : Int) + 1)), (0, .ref 102), (1, ii (hd : Int)), (2, ii (n : Int)), (3, ii (vk v : Int)), (4, ii (q : Int))]) dm_X12_picked_165 (y_incp (a := (k : Int)) (c := 1) rfl rfl (by decide)) rfl ?_
              refine me2 (pc' := 132) (S' := []) dm_X12_picked_168 rfl rfl rfl ?_
              refine pg_cast (h2 := rI pre post ((fillS (rowS s q b 4 (n : Int)) b (k + 1) (fun k => vn v (s.2.2.1 14 k).toNat)).1) ((fillS (rowS s q b 4 (n : Int)) b (k + 1) (fun k => vn v (s.2.2.1 14 k).toNat)).2.1) ((fillS (rowS s q b 4 (n : Int)) b (k + 1) (fun k => vn v (s.2.2.1 14 k).toNat)).2.2.1) ((fillS (rowS s q b 4 (n : Int)) b (k + 1) (fun k => vn v (s.2.2.1 14 k).toNat)).2.2.2)) (fill_s (rowS s q b 4 (n : Int)) b k (fun k => vn v (s.2.2.1 14 k).toNat)) ?_
              exact pg_sub (L := [(0, .ref 102), (1, ii (hd : Int)), (2, ii (n : Int)), (3, ii (vk v : Int)), (4, ii (q : Int)), (5, ii ((k + 1) : Int))]) rfl rfl rfl (ih132 (n - (k + 1)) (by omega) (k + 1) rfl (by omega))
        refine pg_cast (h2 := rI pre post ((fillS (rowS s q b 4 (n : Int)) b 0 (fun k => vn v (s.2.2.1 14 k).toNat)).1) ((fillS (rowS s q b 4 (n : Int)) b 0 (fun k => vn v (s.2.2.1 14 k).toNat)).2.1) ((fillS (rowS s q b 4 (n : Int)) b 0 (fun k => vn v (s.2.2.1 14 k).toNat)).2.2.1) ((fillS (rowS s q b 4 (n : Int)) b 0 (fun k => vn v (s.2.2.1 14 k).toNat)).2.2.2)) (fill_0 (rowS s q b 4 (n : Int)) b (fun k => vn v (s.2.2.1 14 k).toNat)) ?_
        exact pg_sub (L := [(0, .ref 102), (1, ii (hd : Int)), (2, ii (n : Int)), (3, ii (vk v : Int)), (4, ii (q : Int)), (5, ii (0 : Int))]) rfl rfl rfl (lp132 _ 0 rfl (Nat.zero_le _))
  · exfalso; omega
theorem fb_u {α : Type} (b k : Nat) (g z : Nat → α) (x : α) : va_up (fb b k g z) (b + k) x = fb b (k + 1) (va_up g k x) z := by
  have := fb_s b k (va_up g k x) z
  rw [up_eq] at this
  rw [← this]
  congr 1
  funext j
  unfold fb
  by_cases h : b ≤ j ∧ j < b + k
  · rw [if_pos h, if_pos h, up_ne _ _ (by omega)]
  · rw [if_neg h, if_neg h]
theorem fill_u {pre post : mj_H} (T : RS) (b k : Nat) (g : Nat → Int64) (x : Int64) : rI pre post (fillS T b k g).1 (fillS T b k g).2.1 (fillS T b k g).2.2.1 (va_up (fillS T b k g).2.2.2 0 (va_up ((fillS T b k g).2.2.2 0) (b + k) x)) = rS pre post (fillS T b (k + 1) (va_up g k x)) := by
  show rI pre post T.1 T.2.1 T.2.2.1 (va_up (va_up T.2.2.2 0 (fb b k g (T.2.2.2 0))) 0 (va_up (va_up T.2.2.2 0 (fb b k g (T.2.2.2 0)) 0) (b + k) x)) = rI pre post T.1 T.2.1 T.2.2.1 (va_up T.2.2.2 0 (fb b (k + 1) (va_up g k x) (T.2.2.2 0)))
  rw [up_up, up_eq, fb_u]
theorem r_numberX_ {xt : mj_X} {d e hd k fx : Nat} {pre post : mj_H} {s : RS} {v : VV} {x : Int64} {z : Int} (hm : pre.length = 102) (hd1 : 1 ≤ d) (hB : rB s) (hv : rv s (e + 1) hd v) (hk7 : vk v = 7) (hk : k < vm v) (hx : s.2.2.2 0 (fx + k) = x) (hfx : s.2.2.1 1 hd = (fx : Int)) : pgP xt d 226 [.ref 102, ii (hd : Int), ii (k : Int)] (rS pre post s) (.long x) := by
  obtain ⟨hB1, hB2, hB3, hB4⟩ := hB
  obtain ⟨fr, hfr, hsh, hlt, hcl, hvk, hvm, hvc, hvq, hvcl⟩ := rv_val hv
  have hvc2 : vcl v = vm v := by unfold vcl; rw [if_pos hk7]
  refine x_enter pm_X12_number (L0 := [(0, .ref 102), (1, ii (hd : Int)), (2, ii (k : Int))]) rfl (Nat.le_of_ble_eq_true rfl) (by omega) ?_
  refine me1 (pc' := 1) (L' := [(0, .ref 102), (1, ii (hd : Int)), (2, ii (k : Int))]) (S' := [.ref 102]) dm_X12_number_0 rfl rfl rfl rfl ?_
  refine me3 (pc' := 4) (S' := [.ref (102 + 1)]) dm_X12_number_1 (q_getr hm rfl (fun m i l => rg_0 m i l)) rfl rfl rfl ?_
  refine me1 (pc' := 5) (L' := [(0, .ref 102), (1, ii (hd : Int)), (2, ii (k : Int))]) (S' := [.ref 102, .ref (102 + 1)]) dm_X12_number_4 rfl rfl rfl rfl ?_
  refine me3 (pc' := 8) (S' := [.ref (102 + 2), .ref (102 + 1)]) dm_X12_number_5 (q_getr hm rfl (fun m i l => rg_1 m i l)) rfl rfl rfl ?_
  refine me1 (pc' := 9) (L' := [(0, .ref 102), (1, ii (hd : Int)), (2, ii (k : Int))]) (S' := [ii (hd : Int), .ref (102 + 2), .ref (102 + 1)]) dm_X12_number_8 rfl rfl rfl rfl ?_
  refine me3 (pc' := 10) (S' := [ii ((s.2.2.1 1) hd), .ref (102 + 1)]) dm_X12_number_9 (q_iald (v := (s.2.2.1 1) hd) (k := 1) (n := 310000) hm (fun m i l I J => rc_1 m i l I J) (by omega) (by omega) (by decide) rfl) rfl rfl rfl ?_
  refine me1 (pc' := 11) (L' := [(0, .ref 102), (1, ii (hd : Int)), (2, ii (k : Int))]) (S' := [ii (k : Int), ii ((s.2.2.1 1) hd), .ref (102 + 1)]) dm_X12_number_10 rfl rfl rfl rfl ?_
  refine y_iadd (a := (s.2.2.1 1) hd) (b := (k : Int)) dm_X12_number_11 (pc' := 12) rfl ?_
  refine me3 (pc' := 13) (S' := [.long ((s.2.2.2 0) ((((s.2.2.1 1) hd) + (k : Int)).toNat))]) dm_X12_number_12 (q_lald (v := (s.2.2.2 0) ((((s.2.2.1 1) hd) + (k : Int)).toNat)) (k := 0) (n := 820000) hm (fun m i l I J => rc_0 m i l I J) (by omega) (by omega) (by decide) rfl) rfl rfl rfl ?_
  refine y_ret (r := some (.long ((s.2.2.2 0) ((((s.2.2.1 1) hd) + (k : Int)).toNat)))) dm_X12_number_13 rfl rfl rfl ?_
  refine ⟨congrArg some (congrArg Value.long ?_), rfl⟩
  have hff : fr = fx := by rw [hfr] at hfx; omega
  rw [hfr, show ((fr : Int) + (k : Int)).toNat = fr + k by omega, hff]
  exact hx
theorem r_picked7 {xt : mj_X} {d e hd q b n : Nat} {pre post : mj_H} {s : RS} {v : VV} {place : Int} (hm : pre.length = 102) (hd1 : 5 ≤ d) (hB : rB s) (hv : rv s (e + 1) hd v) (hh3 : 3 ≤ hd) (hq : s.1 4 = (q : Int)) (hb : s.1 3 = (b : Int)) (hq3 : 3 ≤ q) (hV2 : q < 310000) (he0 : s.1 5 = 0) (hk7 : vk v = 7) (hn : n ≤ 24) (hC : b + n ≤ 820000) (hO : ∀ k, k < n → 0 ≤ s.2.2.1 14 k ∧ s.2.2.1 14 k < vm v) : pgV xt d 266 [.ref 102, ii (hd : Int), ii (n : Int)] (rS pre post s) (rres pre post s (e + 1) (.inr (vpick v (fun k => (s.2.2.1 14 k).toNat) n)) place n 1) := by
  have hB0 := hB
  have hkid : ∀ k, k < vm v → ∃ p : Nat, 3 ≤ p ∧ s.2.2.2 0 ((s.2.2.1 1 hd).toNat + k) = Int64.ofInt (p : Int) ∧ rv s e p (vd v k) := by
    obtain ⟨-, -, -, fr9, h1, -, -, h2⟩ := hv
    rw [h1]; exact h2 hk7
  obtain ⟨hB1, hB2, hB3, hB4⟩ := hB
  obtain ⟨fr, hfr, hsh, hlt, hcl, hvk, hvm, hvc, hvq, hvcl⟩ := rv_val hv
  rw [hfr, Int.toNat_natCast] at hkid
  have hvc2 : vcl v = vm v := by unfold vcl; rw [if_pos hk7]
  refine x_enter pm_X12_picked (L0 := [(0, .ref 102), (1, ii (hd : Int)), (2, ii (n : Int))]) rfl (Nat.le_of_ble_eq_true rfl) (by omega) ?_
  refine me1 (pc' := 1) (L' := [(0, .ref 102), (1, ii (hd : Int)), (2, ii (n : Int))]) (S' := [.ref 102]) dm_X12_picked_0 rfl rfl rfl rfl ?_
  refine me1 (pc' := 2) (L' := [(0, .ref 102), (1, ii (hd : Int)), (2, ii (n : Int))]) (S' := [ii (hd : Int), .ref 102]) dm_X12_picked_1 rfl rfl rfl rfl ?_
  refine x_cp (pc' := 5) (v := ii (vk v : Int)) (rest := []) dm_X12_picked_2 rfl (q_inv (As := [ii (hd : Int)]) (S := []) hm rfl rfl rfl) rfl rfl rfl (r_kindOf_ hm (by omega) hB0 hv) ?_
  refine me1 (pc' := 6) (L' := [(3, ii (vk v : Int)), (0, .ref 102), (1, ii (hd : Int)), (2, ii (n : Int))]) (S' := []) dm_X12_picked_5 rfl rfl rfl rfl ?_
  refine me1 (pc' := 7) (L' := [(3, ii (vk v : Int)), (0, .ref 102), (1, ii (hd : Int)), (2, ii (n : Int))]) (S' := [ii (vk v : Int)]) dm_X12_picked_6 rfl rfl rfl rfl ?_
  refine me0 (pc' := 9) (S' := [ii 6, ii (vk v : Int)]) dm_X12_picked_7 rfl rfl rfl rfl ?_
  refine y_2ne (a := (vk v : Int)) (b := 6) (t := 88) (pc' := 12) dm_X12_picked_9 rfl rfl (by omega) (fun hb1 => ?_) (fun hb1 => ?_)
  · refine me1 (pc' := 89) (L' := [(3, ii (vk v : Int)), (0, .ref 102), (1, ii (hd : Int)), (2, ii (n : Int))]) (S' := [.ref 102]) dm_X12_picked_88 rfl rfl rfl rfl ?_
    refine me1 (pc' := 90) (L' := [(3, ii (vk v : Int)), (0, .ref 102), (1, ii (hd : Int)), (2, ii (n : Int))]) (S' := [ii (vk v : Int), .ref 102]) dm_X12_picked_89 rfl rfl rfl rfl ?_
    refine y_1ne (a := (vk v : Int)) (t := 113) (pc' := 93) dm_X12_picked_90 rfl rfl (by omega) (fun hb2 => ?_) (fun hb2 => ?_)
    · refine me1 (pc' := 114) (L' := [(3, ii (vk v : Int)), (0, .ref 102), (1, ii (hd : Int)), (2, ii (n : Int))]) (S' := [ii (vk v : Int), .ref 102]) dm_X12_picked_113 rfl rfl rfl rfl ?_
      refine me0 (pc' := 115) (S' := [ii 1, ii (vk v : Int), .ref 102]) dm_X12_picked_114 rfl rfl rfl rfl ?_
      refine y_2ne (a := (vk v : Int)) (b := 1) (t := 122) (pc' := 118) dm_X12_picked_115 rfl rfl (by omega) (fun hb3 => ?_) (fun hb3 => ?_)
      · refine me1 (pc' := 123) (L' := [(3, ii (vk v : Int)), (0, .ref 102), (1, ii (hd : Int)), (2, ii (n : Int))]) (S' := [ii (vk v : Int), .ref 102]) dm_X12_picked_122 rfl rfl rfl rfl ?_
        refine pg_st (S' := [ii 7, .ref 102]) (by rw [show (vk v : Int) = 7 by omega]) ?_
        refine me1 (pc' := 124) (L' := [(3, ii (vk v : Int)), (0, .ref 102), (1, ii (hd : Int)), (2, ii (n : Int))]) (S' := [ii (n : Int), ii 7, .ref 102]) dm_X12_picked_123 rfl rfl rfl rfl ?_
        refine x_cv (pc' := 127) (rest := []) dm_X12_picked_124 rfl (q_inv (As := [ii 7, ii (n : Int)]) (S := []) hm rfl rfl rfl) rfl rfl rfl (r_row_ (q := q) (b := b) (s := s) hm (by omega) hq hb (by omega) (by omega) (by omega)) ?_
        rintro _ _ ⟨rfl, rfl⟩
        refine me1 (pc' := 129) (L' := [(4, ii (q : Int)), (3, ii (vk v : Int)), (0, .ref 102), (1, ii (hd : Int)), (2, ii (n : Int))]) (S' := []) dm_X12_picked_127 rfl rfl rfl rfl ?_
        refine me0 (pc' := 130) (S' := [ii 0]) dm_X12_picked_129 rfl rfl rfl rfl ?_
        refine me1 (pc' := 132) (L' := [(5, ii 0), (4, ii (q : Int)), (3, ii (vk v : Int)), (0, .ref 102), (1, ii (hd : Int)), (2, ii (n : Int))]) (S' := []) dm_X12_picked_130 rfl rfl rfl rfl ?_
        have lp132 : ∀ (n132 : Nat) (k : Nat) (G : Nat → Int64), n - k = n132 → (k ≤ n) → (∀ j, j < k → ∃ p : Nat, 3 ≤ p ∧ G j = Int64.ofInt (p : Int) ∧ rv s e p (vd v (s.2.2.1 14 j).toNat)) → pgE xt (d - 1) 12 7 false (Option.some Jvm.ClassFile.FieldType.int) (mj_dec prog_14_method_34_code) 132 [(0, .ref 102), (1, ii (hd : Int)), (2, ii (n : Int)), (3, ii (vk v : Int)), (4, ii (q : Int)), (5, ii (k : Int))] [] (rI pre post ((fillS (rowS s q b 7 (n : Int)) b k G).1) ((fillS (rowS s q b 7 (n : Int)) b k G).2.1) ((fillS (rowS s q b 7 (n : Int)) b k G).2.2.1) ((fillS (rowS s q b 7 (n : Int)) b k G).2.2.2)) (fun r h' => ∃ x, r = some x ∧ rres pre post s (e + 1) (.inr (vpick v (fun k => (s.2.2.1 14 k).toNat) n)) place n 1 x h') := by
          intro n132
          induction n132 using Nat.strongRecOn with
          | ind n132 ih132 =>
            intro k G hm132 hk hG
            refine me1 (pc' := 134) (L' := [(0, .ref 102), (1, ii (hd : Int)), (2, ii (n : Int)), (3, ii (vk v : Int)), (4, ii (q : Int)), (5, ii (k : Int))]) (S' := [ii (k : Int)]) dm_X12_picked_132 rfl rfl rfl rfl ?_
            refine me1 (pc' := 135) (L' := [(0, .ref 102), (1, ii (hd : Int)), (2, ii (n : Int)), (3, ii (vk v : Int)), (4, ii (q : Int)), (5, ii (k : Int))]) (S' := [ii (n : Int), ii (k : Int)]) dm_X12_picked_134 rfl rfl rfl rfl ?_
            refine y_2ge (a := (k : Int)) (b := (n : Int)) (t := 171) (pc' := 138) dm_X12_picked_135 rfl rfl (by omega) (fun hb4 => ?_) (fun hb4 => ?_)
            · refine me1 (pc' := 173) (L' := [(0, .ref 102), (1, ii (hd : Int)), (2, ii (n : Int)), (3, ii (vk v : Int)), (4, ii (q : Int)), (5, ii (k : Int))]) (S' := [ii (q : Int)]) dm_X12_picked_171 rfl rfl rfl rfl ?_
              refine y_ret (r := some (ii (q : Int))) dm_X12_picked_173 rfl rfl rfl ?_
              have hkn : k = n := by omega
              subst hkn
              rw [vpick_7 hk7]
              exact ⟨_, rfl, rres_nest hq hq3 hb he0 hn hG (Nat.le_refl _) (Nat.le_refl _)⟩
            · have hOk := hO k (by omega)
              have hxT : rext s (fillS (rowS s q b 7 (n : Int)) b k G) := rext_fill (rext_row hq hb _ (by omega)) (by omega) _
              have hvX := rv_ext hxT hh3 hv
              have hBX : rB (fillS (rowS s q b 7 (n : Int)) b k G) := ⟨by show 3 ≤ (q : Int) + 1; omega, by show (q : Int) + 1 ≤ 310000; omega, by show 0 ≤ (b : Int) + (n : Int); omega, by show (b : Int) + (n : Int) ≤ 820000; omega⟩
              refine me1 (pc' := 139) (L' := [(0, .ref 102), (1, ii (hd : Int)), (2, ii (n : Int)), (3, ii (vk v : Int)), (4, ii (q : Int)), (5, ii (k : Int))]) (S' := [.ref 102]) dm_X12_picked_138 rfl rfl rfl rfl ?_
              refine me3 (pc' := 142) (S' := [.ref (102 + 1)]) dm_X12_picked_139 (q_getr hm rfl (fun m i l => rg_0 m i l)) rfl rfl rfl ?_
              refine me1 (pc' := 143) (L' := [(0, .ref 102), (1, ii (hd : Int)), (2, ii (n : Int)), (3, ii (vk v : Int)), (4, ii (q : Int)), (5, ii (k : Int))]) (S' := [.ref 102, .ref (102 + 1)]) dm_X12_picked_142 rfl rfl rfl rfl ?_
              refine me3 (pc' := 146) (S' := [.ref (102 + 2), .ref (102 + 1)]) dm_X12_picked_143 (q_getr hm rfl (fun m i l => rg_1 m i l)) rfl rfl rfl ?_
              refine me1 (pc' := 148) (L' := [(0, .ref 102), (1, ii (hd : Int)), (2, ii (n : Int)), (3, ii (vk v : Int)), (4, ii (q : Int)), (5, ii (k : Int))]) (S' := [ii (q : Int), .ref (102 + 2), .ref (102 + 1)]) dm_X12_picked_146 rfl rfl rfl rfl ?_
              refine me3 (pc' := 149) (S' := [ii ((((fillS (rowS s q b 7 (n : Int)) b k G).2.2.1) 1) q), .ref (102 + 1)]) dm_X12_picked_148 (q_iald (v := (((fillS (rowS s q b 7 (n : Int)) b k G).2.2.1) 1) q) (k := 1) (n := 310000) hm (fun m i l I J => rc_1 m i l I J) (by omega) (by omega) (by decide) rfl) rfl rfl rfl ?_
              refine pg_st (S' := [ii (b : Int), .ref (102 + 1)]) (congrArg (fun z => ii z :: [.ref (102 + 1)]) (up_eq _ _ _)) ?_
              refine me1 (pc' := 151) (L' := [(0, .ref 102), (1, ii (hd : Int)), (2, ii (n : Int)), (3, ii (vk v : Int)), (4, ii (q : Int)), (5, ii (k : Int))]) (S' := [ii (k : Int), ii (b : Int), .ref (102 + 1)]) dm_X12_picked_149 rfl rfl rfl rfl ?_
              refine y_iadd (a := (b : Int)) (b := (k : Int)) dm_X12_picked_151 (pc' := 152) rfl ?_
              refine me1 (pc' := 153) (L' := [(0, .ref 102), (1, ii (hd : Int)), (2, ii (n : Int)), (3, ii (vk v : Int)), (4, ii (q : Int)), (5, ii (k : Int))]) (S' := [.ref 102, ii ((b : Int) + (k : Int)), .ref (102 + 1)]) dm_X12_picked_152 rfl rfl rfl rfl ?_
              refine me1 (pc' := 154) (L' := [(0, .ref 102), (1, ii (hd : Int)), (2, ii (n : Int)), (3, ii (vk v : Int)), (4, ii (q : Int)), (5, ii (k : Int))]) (S' := [ii (hd : Int), .ref 102, ii ((b : Int) + (k : Int)), .ref (102 + 1)]) dm_X12_picked_153 rfl rfl rfl rfl ?_
              refine me1 (pc' := 155) (L' := [(0, .ref 102), (1, ii (hd : Int)), (2, ii (n : Int)), (3, ii (vk v : Int)), (4, ii (q : Int)), (5, ii (k : Int))]) (S' := [.ref 102, ii (hd : Int), .ref 102, ii ((b : Int) + (k : Int)), .ref (102 + 1)]) dm_X12_picked_154 rfl rfl rfl rfl ?_
              refine me3 (pc' := 158) (S' := [.ref (102 + 5), ii (hd : Int), .ref 102, ii ((b : Int) + (k : Int)), .ref (102 + 1)]) dm_X12_picked_155 (q_getr hm rfl (fun m i l => rg_14 m i l)) rfl rfl rfl ?_
              refine me1 (pc' := 160) (L' := [(0, .ref 102), (1, ii (hd : Int)), (2, ii (n : Int)), (3, ii (vk v : Int)), (4, ii (q : Int)), (5, ii (k : Int))]) (S' := [ii (k : Int), .ref (102 + 5), ii (hd : Int), .ref 102, ii ((b : Int) + (k : Int)), .ref (102 + 1)]) dm_X12_picked_158 rfl rfl rfl rfl ?_
              refine me3 (pc' := 161) (S' := [ii ((((fillS (rowS s q b 7 (n : Int)) b k G).2.2.1) 14) k), ii (hd : Int), .ref 102, ii ((b : Int) + (k : Int)), .ref (102 + 1)]) dm_X12_picked_160 (q_iald (v := (((fillS (rowS s q b 7 (n : Int)) b k G).2.2.1) 14) k) (k := 14) (n := 260) hm (fun m i l I J => rc_14 m i l I J) (by omega) (by omega) (by decide) rfl) rfl rfl rfl ?_
              refine pg_st (S' := [ii ((s.2.2.1 14 k).toNat : Int), ii (hd : Int), .ref 102, ii ((b : Int) + (k : Int)), .ref (102 + 1)]) (by rw [show ((((fillS (rowS s q b 7 (n : Int)) b k G).2.2.1) 14) k : Int) = (((s.2.2.1 14 k).toNat : Nat) : Int) from (Int.toNat_of_nonneg hOk.1).symm]) ?_
              obtain ⟨p, hp3, hpc, hpv0⟩ := hkid (s.2.2.1 14 k).toNat (by omega)
              refine x_cp (pc' := 164) (v := .long (Int64.ofInt (p : Int))) (rest := [ii ((b : Int) + (k : Int)), .ref (102 + 1)]) dm_X12_picked_161 rfl (q_inv (As := [ii (hd : Int), ii ((s.2.2.1 14 k).toNat : Int)]) (S := [ii ((b : Int) + (k : Int)), .ref (102 + 1)]) hm rfl rfl rfl) rfl rfl rfl (r_numberX_ (fx := fr) (z := 0) (k := (s.2.2.1 14 k).toNat) hm (by omega) hBX hvX (by omega) (by omega) ((hxT.2.2.2 (fr + (s.2.2.1 14 k).toNat) (by omega)).trans hpc) ((hxT.2.2.1 hd hh3 hlt).1.trans hfr)) ?_
              refine me3 (pc' := 165) (S' := []) (h1 := rI pre post ((fillS (rowS s q b 7 (n : Int)) b k G).1) ((fillS (rowS s q b 7 (n : Int)) b k G).2.1) ((fillS (rowS s q b 7 (n : Int)) b k G).2.2.1) (va_up ((fillS (rowS s q b 7 (n : Int)) b k G).2.2.2) 0 (va_up (((fillS (rowS s q b 7 (n : Int)) b k G).2.2.2) 0) (b + k) (Int64.ofInt (p : Int))))) dm_X12_picked_164 (q_last (j := (b : Int) + (k : Int)) (k := 0) (n := 820000) hm (fun m i l I J => rc_0 m i l I J) (fun m i l I J f => rs_0 m i l I J f) (by omega) (by omega) (by decide)) rfl rfl rfl ?_
              refine y_iinc (pc' := 168) (L' := [(5, ii ((k : Int) + 1)), (0, .ref 102), (1, ii (hd : Int)), (2, ii (n : Int)), (3, ii (vk v : Int)), (4, ii (q : Int))]) dm_X12_picked_165 (y_incp (a := (k : Int)) (c := 1) rfl rfl (by decide)) rfl ?_
              refine me2 (pc' := 132) (S' := []) dm_X12_picked_168 rfl rfl rfl ?_
              refine pg_cast (h2 := rI pre post ((fillS (rowS s q b 7 (n : Int)) b (k + 1) (va_up G k (Int64.ofInt (p : Int)))).1) ((fillS (rowS s q b 7 (n : Int)) b (k + 1) (va_up G k (Int64.ofInt (p : Int)))).2.1) ((fillS (rowS s q b 7 (n : Int)) b (k + 1) (va_up G k (Int64.ofInt (p : Int)))).2.2.1) ((fillS (rowS s q b 7 (n : Int)) b (k + 1) (va_up G k (Int64.ofInt (p : Int)))).2.2.2)) (fill_u (rowS s q b 7 (n : Int)) b k G _) ?_
              exact pg_sub (L := [(0, .ref 102), (1, ii (hd : Int)), (2, ii (n : Int)), (3, ii (vk v : Int)), (4, ii (q : Int)), (5, ii ((k + 1) : Int))]) rfl rfl rfl (ih132 (n - (k + 1)) (by omega) (k + 1) (va_up G k (Int64.ofInt (p : Int))) rfl (by omega) (fun j hj => by by_cases z : j = k; (subst z; exact ⟨p, hp3, up_eq _ _ _, hpv0⟩); (rw [up_ne _ _ z]; exact hG j (by omega))))
        refine pg_cast (h2 := rI pre post ((fillS (rowS s q b 7 (n : Int)) b 0 (fun _ => 0)).1) ((fillS (rowS s q b 7 (n : Int)) b 0 (fun _ => 0)).2.1) ((fillS (rowS s q b 7 (n : Int)) b 0 (fun _ => 0)).2.2.1) ((fillS (rowS s q b 7 (n : Int)) b 0 (fun _ => 0)).2.2.2)) (fill_0 (rowS s q b 7 (n : Int)) b _) ?_
        exact pg_sub (L := [(0, .ref 102), (1, ii (hd : Int)), (2, ii (n : Int)), (3, ii (vk v : Int)), (4, ii (q : Int)), (5, ii (0 : Int))]) rfl rfl rfl (lp132 _ 0 (fun _ => 0) rfl (Nat.zero_le _) (fun j hj => absurd hj (Nat.not_lt_zero j)))
      · exfalso; omega
    · exfalso; omega
  · exfalso; omega
