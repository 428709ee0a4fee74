/-- n values have been put to wait since s, from base on; nothing else that is kept has changed -/
def rpw (s t : RS) (base n e : Nat) (ch : Nat → VV) : Prop := rext s t ∧ (∀ k, k ≠ 3 → k ≠ 4 → k ≠ 5 → k ≠ 6 → k ≠ 13 → k ≠ 17 → t.1 k = s.1 k) ∧ t.1 13 = ((base + n : Nat) : Int) ∧ t.2.1 = s.2.1 ∧ (∀ k, k ≠ 1 → k ≠ 2 → k ≠ 12 → k ≠ 14 → k ≠ 15 → t.2.2.1 k = s.2.2.1 k) ∧ (∀ k, k ≠ 0 → t.2.2.2 k = s.2.2.2 k) ∧ (∀ j, j < base → t.2.2.1 12 j = s.2.2.1 12 j) ∧ t.1 5 = s.1 5 ∧ t.1 6 = s.1 6 ∧ ∀ j, j < n → ∃ p : Nat, 3 ≤ p ∧ t.2.2.1 12 (base + j) = (p : Int) ∧ rv t e p (ch j)
theorem rpw_0 {s : RS} {base e : Nat} {ch : Nat → VV} (h : s.1 13 = (base : Int)) : rpw s s base 0 e ch :=
  ⟨rext_rf s, fun _ _ _ _ _ _ _ => rfl, h, rfl, fun _ _ _ _ _ _ => rfl, fun _ _ => rfl, fun _ _ => rfl, rfl, rfl, fun j hj => absurd hj (Nat.not_lt_zero j)⟩
/-- something was done between -/
theorem rpw_fr {s t u : RS} {base n e : Nat} {ch : Nat → VV} (h : rpw s t base n e ch) (hx : rext t u) (hf : rfr t u) (h5 : u.1 5 = t.1 5) (h6 : u.1 6 = t.1 6) : rpw s u base n e ch := by
  obtain ⟨a1, a2, a3, a4, a5, a6, a7, a8, a9, a10⟩ := h
  obtain ⟨f1, f2, f3, f4, f5⟩ := hf
  refine ⟨rext_tr a1 hx, fun k c3 c4 c5 c6 c13 c17 => (f1 k c3 c4 c5 c6 c17).trans (a2 k c3 c4 c5 c6 c13 c17), (f1 13 (by decide) (by decide) (by decide) (by decide) (by decide)).trans a3, f2.trans a4, fun k c1 c2 c12 c14 c15 => (f3 k c1 c2 c12 c14 c15).trans (a5 k c1 c2 c12 c14 c15), fun k c => (f4 k c).trans (a6 k c), fun j hj => (f5 j (by rw [a3]; omega)).trans (a7 j hj), h5.trans a8, h6.trans a9, fun j hj => ?_⟩
  obtain ⟨p, p1, p2, p3⟩ := a10 j hj
  exact ⟨p, p1, (f5 (base + j) (by rw [a3]; omega)).trans p2, rv_ext hx p1 p3⟩
theorem rpw_pre {s t u : RS} {base n e : Nat} {ch : Nat → VV} (h : rpw s t base n e ch) (hp : rpre t u) : rpw s u base n e ch := rpw_fr h hp.1 hp.2.1 hp.2.2.2.2.1 hp.2.2.2.2.2.1
/-- behind push -/
def pushS (t : RS) (m : Nat) (x : Int) : RS := (va_up t.1 13 ((m : Int) + 1), t.2.1, va_up t.2.2.1 12 (va_up (t.2.2.1 12) m x), t.2.2.2)
theorem rext_push (t : RS) (m : Nat) (x : Int) : rext t (pushS t m x) := by
  refine ⟨?_, ?_, fun hd _ _ => ⟨?_, ?_⟩, fun _ _ => rfl⟩
  · show t.1 4 ≤ va_up t.1 13 ((m : Int) + 1) 4; rw [up_ne _ _ (by decide)]; exact Int.le_refl _
  · show t.1 3 ≤ va_up t.1 13 ((m : Int) + 1) 3; rw [up_ne _ _ (by decide)]; exact Int.le_refl _
  · show va_up t.2.2.1 12 (va_up (t.2.2.1 12) m x) 1 hd = _; rw [up_ne _ _ (by decide)]
  · show va_up t.2.2.1 12 (va_up (t.2.2.1 12) m x) 2 hd = _; rw [up_ne _ _ (by decide)]
theorem rpw_push {s t : RS} {base n e p : Nat} {ch : Nat → VV} (h : rpw s t base n e ch) (hp : 3 ≤ p) (hv : rv t e p (ch n)) : rpw s (pushS t (base + n) (p : Int)) base (n + 1) e ch := by
  obtain ⟨a1, a2, a3, a4, a5, a6, a7, a8, a9, a10⟩ := h
  have hx := rext_push t (base + n) (p : Int)
  have e1 : ∀ k, k ≠ 13 → (pushS t (base + n) (p : Int)).1 k = t.1 k := fun k hk => up_ne _ _ hk
  have e2 : ∀ k, k ≠ 12 → (pushS t (base + n) (p : Int)).2.2.1 k = t.2.2.1 k := fun k hk => up_ne _ _ hk
  have e3 : (pushS t (base + n) (p : Int)).2.2.1 12 = va_up (t.2.2.1 12) (base + n) (p : Int) := by
    show va_up t.2.2.1 12 (va_up (t.2.2.1 12) (base + n) (p : Int)) 12 = _
    rw [up_eq]
  refine ⟨rext_tr a1 hx, fun k c3 c4 c5 c6 c13 c17 => (e1 k c13).trans (a2 k c3 c4 c5 c6 c13 c17), ?_, a4, fun k c1 c2 c12 c14 c15 => (e2 k c12).trans (a5 k c1 c2 c12 c14 c15), a6, fun j hj => ?_, (e1 5 (by decide)).trans a8, (e1 6 (by decide)).trans a9, fun j hj => ?_⟩
  · show va_up t.1 13 (((base + n : Nat) : Int) + 1) 13 = _
    rw [up_eq]
    omega
  · rw [e3, up_ne _ _ (by omega)]; exact a7 j hj
  · by_cases z : j = n
    · subst z
      exact ⟨p, hp, by rw [e3, up_eq], rv_ext hx hp hv⟩
    · obtain ⟨r, r1, r2, r3⟩ := a10 j (by omega)
      exact ⟨r, r1, by rw [e3, up_ne _ _ (by omega)]; exact r2, rv_ext hx r1 r3⟩
/-- the same, with bounds as told -/
def rresP (pre post : mj_H) (s : RS) (e : Nat) (o : Nat ⊕ VV) (place : Int) (cb vb : Nat) (x : Value) (h' : mj_H) : Prop := ∃ s1, h' = rS pre post s1 ∧ rext s s1 ∧ rfr s s1 ∧ s1.1 3 ≤ s.1 3 + (cb : Int) ∧ s1.1 4 ≤ s.1 4 + (vb : Int) ∧ (match o with
  | .inl n => x = ii (-1) ∧ s1.1 5 = (n : Int) ∧ s1.1 6 = (if 0 < s.1 10 then s.1 11 else place)
  | .inr w => s1.1 5 = 0 ∧ s1.1 6 = s.1 6 ∧ ∃ q : Nat, 3 ≤ q ∧ x = ii (q : Int) ∧ rv s1 e q w)
theorem rresP_of {pre post : mj_H} {s : RS} {e cb vb : Nat} {o : Nat ⊕ VV} {place : Int} {x : Value} {h' : mj_H} (h : rres pre post s e o place cb vb x h') : rresP pre post s e o place cb vb x h' := by
  obtain ⟨s1, a1, a2, a3, a4, a5, a6⟩ := h
  have u1 := rcb_le (o := o) (cb := cb)
  have u2 := rvb_le (o := o) (vb := vb)
  exact ⟨s1, a1, a2, a3, by omega, by omega, a6⟩
theorem rresP_mk {pre post : mj_H} {s t : RS} {e cb vb q : Nat} {place : Int} {w : VV} (hx : rext s t) (hf : rfr s t) (h3 : t.1 3 ≤ s.1 3 + (cb : Int)) (h4 : t.1 4 ≤ s.1 4 + (vb : Int)) (he : t.1 5 = 0) (h6 : t.1 6 = s.1 6) (hq : 3 ≤ q) (hv : rv t e q w) : rresP pre post s e (.inr w) place cb vb (ii (q : Int)) (rS pre post t) := ⟨t, rfl, hx, hf, h3, h4, he, h6, q, hq, rfl, hv⟩
theorem rpw_nestP {pre post : mj_H} {s t : RS} {base n e q b cb vb : Nat} {ch : Nat → VV} {place : Int} (h : rpw s t base n e ch) (hs : s.1 13 = (base : Int)) (he : s.1 5 = 0) (hq : t.1 4 = (q : Int)) (hq3 : 3 ≤ q) (hb : t.1 3 = (b : Int)) (hn : n ≤ 24) (h3 : (b : Int) + (n : Int) ≤ s.1 3 + (cb : Int)) (h4 : (q : Int) + 1 ≤ s.1 4 + (vb : Int)) : rresP pre post s (e + 1) (.inr (vnest n ch)) place cb vb (ii (q : Int)) (rS pre post (nestS t q b n base)) := by
  obtain ⟨a1, a2, a3, a4, a5, a6, a7, a8, a9, a10⟩ := h
  have hvN : rv (fillS (rowS t q b 7 (n : Int)) b n (fun k => Int64.ofInt (t.2.2.1 12 (base + k)))) (e + 1) q (vnest n ch) := rv_nestS hq hb hn (fun k hk => by
    obtain ⟨p, p1, p2, p3⟩ := a10 k hk
    exact ⟨p, p1, by rw [p2], p3⟩)
  have hxT : rext t (fillS (rowS t q b 7 (n : Int)) b n (fun k => Int64.ofInt (t.2.2.1 12 (base + k)))) := rext_fill (rext_row hq hb _ (by omega)) (by omega) _
  have hfT := rfr_tr (rfr_row t q b 7 (n : Int)) (rfr_fill (rowS t q b 7 (n : Int)) b n (fun k => Int64.ofInt (t.2.2.1 12 (base + k))))
  generalize hT : fillS (rowS t q b 7 (n : Int)) b n (fun k => Int64.ofInt (t.2.2.1 12 (base + k))) = T at *
  have hNS : nestS t q b n base = (va_up T.1 13 (base : Int), T.2.1, T.2.2.1, T.2.2.2) := by rw [← hT]; rfl
  have hxN : rext T (nestS t q b n base) := by
    rw [hNS]
    refine ⟨?_, ?_, fun _ _ _ => ⟨rfl, rfl⟩, fun _ _ => rfl⟩
    · show T.1 4 ≤ va_up T.1 13 (base : Int) 4; rw [up_ne _ _ (by decide)]; exact Int.le_refl _
    · show T.1 3 ≤ va_up T.1 13 (base : Int) 3; rw [up_ne _ _ (by decide)]; exact Int.le_refl _
  have e1 : ∀ k, k ≠ 13 → (nestS t q b n base).1 k = T.1 k := fun k hk => by rw [hNS]; exact up_ne _ _ hk
  have e13 : (nestS t q b n base).1 13 = (base : Int) := by rw [hNS]; show va_up T.1 13 (base : Int) 13 = _; rw [up_eq]
  have e2 : (nestS t q b n base).2.2.1 = T.2.2.1 := by rw [hNS]
  have e4 : (nestS t q b n base).2.2.2 = T.2.2.2 := by rw [hNS]
  have e5 : (nestS t q b n base).2.1 = T.2.1 := by rw [hNS]
  have hT3 : T.1 3 = (b : Int) + (n : Int) := by rw [← hT]; rfl
  have hT4 : T.1 4 = (q : Int) + 1 := by rw [← hT]; rfl
  have hT5 : T.1 5 = t.1 5 := by rw [← hT]; rfl
  have hT6 : T.1 6 = t.1 6 := by rw [← hT]; rfl
  obtain ⟨f1, f2, f3, f4, f5⟩ := hfT
  refine rresP_mk (rext_tr a1 (rext_tr hxT hxN)) ⟨fun k c3 c4 c5 c6 c17 => ?_, ?_, fun k c1 c2 c12 c14 c15 => ?_, fun k c => ?_, fun j hj => ?_⟩ ?_ ?_ ?_ ?_ hq3 (rv_ext hxN hq3 hvN)
  · by_cases z : k = 13
    · rw [z, e13, hs]
    · rw [e1 k z, f1 k c3 c4 c5 c6 c17, a2 k c3 c4 c5 c6 z c17]
  · rw [e5, f2, a4]
  · rw [e2, f3 k c1 c2 c12 c14 c15, a5 k c1 c2 c12 c14 c15]
  · rw [e4, f4 k c, a6 k c]
  · rw [e2, f5 j (by rw [a3]; omega), a7 j (by omega)]
  · rw [e1 3 (by decide), hT3]; exact h3
  · rw [e1 4 (by decide), hT4]; exact h4
  · rw [e1 5 (by decide), hT5, a8, he]
  · rw [e1 6 (by decide), hT6, a9]

theorem rpw_nest {pre post : mj_H} {s t : RS} {base n e q b cb vb : Nat} {ch : Nat → VV} {place : Int} (h : rpw s t base n e ch) (hs : s.1 13 = (base : Int)) (he : s.1 5 = 0) (hq : t.1 4 = (q : Int)) (hq3 : 3 ≤ q) (hb : t.1 3 = (b : Int)) (hn : n ≤ 24) (h3 : (b : Int) ≤ s.1 3) (h3b : n ≤ cb) (h4 : (q : Int) + 1 ≤ s.1 4 + (vb : Int)) : rres pre post s (e + 1) (.inr (vnest n ch)) place cb vb (ii (q : Int)) (rS pre post (nestS t q b n base)) := by
  obtain ⟨s1, z1, z2, z3, z4, z5, z6⟩ := rpw_nestP (pre := pre) (post := post) (place := place) (cb := n) (vb := vb) h hs he hq hq3 hb hn (by omega) h4
  exact ⟨s1, z1, z2, z3, by have := rcb_ge (w := vnest n ch) h3b (by show n ≤ (if (7 : Nat) = 7 then n else _); rw [if_pos rfl]; exact Nat.le_refl _); omega, by show s1.1 4 ≤ s.1 4 + (((if (7 : Nat) = 7 then vb else min vb 1) : Nat) : Int); rw [if_pos rfl]; exact z5, z6⟩
/-- the sort of a value where it is joined -/
def srtO (v : VV) : Nat := if vk v = 0 ∨ vk v = 2 ∨ vk v = 4 ∨ vk v = 5 then 1 else if vk v = 1 ∨ vk v = 3 then 2 else if vk v = 6 then 3 else 4
set_option maxRecDepth 20000 in
theorem pm_X12_sortOf : mj_mmof pg_ms 260 = some ((⟨"ArrayCalculatorModel", "sortOf", "(I)I"⟩, prog_14_method_54_code, 2, (Option.some Jvm.ClassFile.FieldType.int)), 12, false, mj_dec prog_14_method_54_code) := rfl
theorem dm_X12_sortOf_0 : mj_dec prog_14_method_54_code 0 = some (.aload_n 0, 1) := by decide +kernel
theorem dm_X12_sortOf_1 : mj_dec prog_14_method_54_code 1 = some (.iload_n 1, 1) := by decide +kernel
theorem dm_X12_sortOf_2 : mj_dec prog_14_method_54_code 2 = some (.invokevirtual 146, 3) := by decide +kernel
theorem dm_X12_sortOf_5 : mj_dec prog_14_method_54_code 5 = some (.ifCond .eq 11, 3) := by decide +kernel
theorem dm_X12_sortOf_8 : mj_dec prog_14_method_54_code 8 = some (.aload_n 0, 1) := by decide +kernel
theorem dm_X12_sortOf_9 : mj_dec prog_14_method_54_code 9 = some (.iload_n 1, 1) := by decide +kernel
theorem dm_X12_sortOf_10 : mj_dec prog_14_method_54_code 10 = some (.invokevirtual 174, 3) := by decide +kernel
theorem dm_X12_sortOf_13 : mj_dec prog_14_method_54_code 13 = some (.ifCond .eq 7, 3) := by decide +kernel
theorem dm_X12_sortOf_16 : mj_dec prog_14_method_54_code 16 = some (.iconst 1, 1) := by decide +kernel
theorem dm_X12_sortOf_17 : mj_dec prog_14_method_54_code 17 = some (.goto 40, 3) := by decide +kernel
theorem dm_X12_sortOf_20 : mj_dec prog_14_method_54_code 20 = some (.aload_n 0, 1) := by decide +kernel
theorem dm_X12_sortOf_21 : mj_dec prog_14_method_54_code 21 = some (.iload_n 1, 1) := by decide +kernel
theorem dm_X12_sortOf_22 : mj_dec prog_14_method_54_code 22 = some (.invokevirtual 146, 3) := by decide +kernel
theorem dm_X12_sortOf_25 : mj_dec prog_14_method_54_code 25 = some (.iconst 1, 1) := by decide +kernel
theorem dm_X12_sortOf_26 : mj_dec prog_14_method_54_code 26 = some (.if_icmp .eq 12, 3) := by decide +kernel
theorem dm_X12_sortOf_29 : mj_dec prog_14_method_54_code 29 = some (.aload_n 0, 1) := by decide +kernel
theorem dm_X12_sortOf_30 : mj_dec prog_14_method_54_code 30 = some (.iload_n 1, 1) := by decide +kernel
theorem dm_X12_sortOf_31 : mj_dec prog_14_method_54_code 31 = some (.invokevirtual 146, 3) := by decide +kernel
theorem dm_X12_sortOf_34 : mj_dec prog_14_method_54_code 34 = some (.iconst 3, 1) := by decide +kernel
theorem dm_X12_sortOf_35 : mj_dec prog_14_method_54_code 35 = some (.if_icmp .ne 7, 3) := by decide +kernel
theorem dm_X12_sortOf_38 : mj_dec prog_14_method_54_code 38 = some (.iconst 2, 1) := by decide +kernel
theorem dm_X12_sortOf_39 : mj_dec prog_14_method_54_code 39 = some (.goto 18, 3) := by decide +kernel
theorem dm_X12_sortOf_42 : mj_dec prog_14_method_54_code 42 = some (.aload_n 0, 1) := by decide +kernel
theorem dm_X12_sortOf_43 : mj_dec prog_14_method_54_code 43 = some (.iload_n 1, 1) := by decide +kernel
theorem dm_X12_sortOf_44 : mj_dec prog_14_method_54_code 44 = some (.invokevirtual 146, 3) := by decide +kernel
theorem dm_X12_sortOf_47 : mj_dec prog_14_method_54_code 47 = some (.bipush 6, 2) := by decide +kernel
theorem dm_X12_sortOf_49 : mj_dec prog_14_method_54_code 49 = some (.if_icmp .ne 7, 3) := by decide +kernel
theorem dm_X12_sortOf_52 : mj_dec prog_14_method_54_code 52 = some (.iconst 3, 1) := by decide +kernel
theorem dm_X12_sortOf_53 : mj_dec prog_14_method_54_code 53 = some (.goto 4, 3) := by decide +kernel
theorem dm_X12_sortOf_56 : mj_dec prog_14_method_54_code 56 = some (.iconst 4, 1) := by decide +kernel
theorem dm_X12_sortOf_57 : mj_dec prog_14_method_54_code 57 = some (.ireturn, 1) := by decide +kernel
theorem r_sortOf_ {xt : mj_X} {d e hd : Nat} {pre post : mj_H} {s : RS} {v : VV} (hm : pre.length = 102)  (hd1 : 4 ≤ d) (hB : rB s) (hv : rv s (e + 1) hd v)  : pgP xt d 260 [.ref 102, ii (hd : Int)] (rS pre post s) (ii ((srtO v : Nat) : Int)) := by
  have hB0 := hB
  obtain ⟨hB1, hB2, hB3, hB4⟩ := hB
  obtain ⟨fr, hfr, hsh, hlt, hcl, hvk, hvm, hvc, hvq, hvcl⟩ := rv_val hv
  refine x_enter pm_X12_sortOf (L0 := [(0, .ref 102), (1, ii (hd : Int))]) rfl (Nat.le_of_ble_eq_true rfl) (by omega) ?_
  refine me1 (pc' := 1) (L' := [(0, .ref 102), (1, ii (hd : Int))]) (S' := [.ref 102]) dm_X12_sortOf_0 rfl rfl rfl rfl ?_
  refine me1 (pc' := 2) (L' := [(0, .ref 102), (1, ii (hd : Int))]) (S' := [ii (hd : Int), .ref 102]) dm_X12_sortOf_1 rfl rfl rfl rfl ?_
  refine x_cp (pc' := 5) (v := ii (vk v : Int)) (rest := []) dm_X12_sortOf_2 rfl (q_inv (As := [ii (hd : Int)]) (S := []) hm rfl rfl rfl) rfl rfl rfl (r_kindOf_ hm (by omega) hB0 hv) ?_
  refine y_1eq (a := (vk v : Int)) (t := 16) (pc' := 8) dm_X12_sortOf_5 rfl rfl (by omega) (fun hb1 => ?_) (fun hb1 => ?_)
  · refine me0 (pc' := 17) (S' := [ii 1]) dm_X12_sortOf_16 rfl rfl rfl rfl ?_
    refine me2 (pc' := 57) (S' := [ii 1]) dm_X12_sortOf_17 rfl rfl rfl ?_
    refine y_ret (r := some (ii 1)) dm_X12_sortOf_57 rfl rfl rfl ?_
    exact ⟨congrArg some (n_ii (by unfold srtO; first | (rw [if_pos (by omega)]; rfl) | (rw [if_neg (by omega), if_pos (by omega)]; rfl) | (rw [if_neg (by omega), if_neg (by omega), if_pos (by omega)]; rfl) | (rw [if_neg (by omega), if_neg (by omega), if_neg (by omega)]; rfl))), rfl⟩
  · refine me1 (pc' := 9) (L' := [(0, .ref 102), (1, ii (hd : Int))]) (S' := [.ref 102]) dm_X12_sortOf_8 rfl rfl rfl rfl ?_
    refine me1 (pc' := 10) (L' := [(0, .ref 102), (1, ii (hd : Int))]) (S' := [ii (hd : Int), .ref 102]) dm_X12_sortOf_9 rfl rfl rfl rfl ?_
    refine x_cp (pc' := 13) (v := zz (decide (vk v = 2 ∨ vk v = 4 ∨ vk v = 5))) (rest := []) dm_X12_sortOf_10 rfl (q_inv (As := [ii (hd : Int)]) (S := []) hm rfl rfl rfl) rfl rfl rfl (r_isNumbers_ hm (by omega) hB0 hv) ?_
    refine y_zeq (c := decide (vk v = 2 ∨ vk v = 4 ∨ vk v = 5)) (t := 20) (pc' := 16) dm_X12_sortOf_13 rfl rfl (fun hb2 => ?_) (fun hb2 => ?_)
    · replace hb2 := dF hb2
      refine me1 (pc' := 21) (L' := [(0, .ref 102), (1, ii (hd : Int))]) (S' := [.ref 102]) dm_X12_sortOf_20 rfl rfl rfl rfl ?_
      refine me1 (pc' := 22) (L' := [(0, .ref 102), (1, ii (hd : Int))]) (S' := [ii (hd : Int), .ref 102]) dm_X12_sortOf_21 rfl rfl rfl rfl ?_
      refine x_cp (pc' := 25) (v := ii (vk v : Int)) (rest := []) dm_X12_sortOf_22 rfl (q_inv (As := [ii (hd : Int)]) (S := []) hm rfl rfl rfl) rfl rfl rfl (r_kindOf_ hm (by omega) hB0 hv) ?_
      refine me0 (pc' := 26) (S' := [ii 1, ii (vk v : Int)]) dm_X12_sortOf_25 rfl rfl rfl rfl ?_
      refine y_2eq (a := (vk v : Int)) (b := 1) (t := 38) (pc' := 29) dm_X12_sortOf_26 rfl rfl (by omega) (fun hb3 => ?_) (fun hb3 => ?_)
      · refine me0 (pc' := 39) (S' := [ii 2]) dm_X12_sortOf_38 rfl rfl rfl rfl ?_
        refine me2 (pc' := 57) (S' := [ii 2]) dm_X12_sortOf_39 rfl rfl rfl ?_
        refine y_ret (r := some (ii 2)) dm_X12_sortOf_57 rfl rfl rfl ?_
        exact ⟨congrArg some (n_ii (by unfold srtO; first | (rw [if_pos (by omega)]; rfl) | (rw [if_neg (by omega), if_pos (by omega)]; rfl) | (rw [if_neg (by omega), if_neg (by omega), if_pos (by omega)]; rfl) | (rw [if_neg (by omega), if_neg (by omega), if_neg (by omega)]; rfl))), rfl⟩
      · refine me1 (pc' := 30) (L' := [(0, .ref 102), (1, ii (hd : Int))]) (S' := [.ref 102]) dm_X12_sortOf_29 rfl rfl rfl rfl ?_
        refine me1 (pc' := 31) (L' := [(0, .ref 102), (1, ii (hd : Int))]) (S' := [ii (hd : Int), .ref 102]) dm_X12_sortOf_30 rfl rfl rfl rfl ?_
        refine x_cp (pc' := 34) (v := ii (vk v : Int)) (rest := []) dm_X12_sortOf_31 rfl (q_inv (As := [ii (hd : Int)]) (S := []) hm rfl rfl rfl) rfl rfl rfl (r_kindOf_ hm (by omega) hB0 hv) ?_
        refine me0 (pc' := 35) (S' := [ii 3, ii (vk v : Int)]) dm_X12_sortOf_34 rfl rfl rfl rfl ?_
        refine y_2ne (a := (vk v : Int)) (b := 3) (t := 42) (pc' := 38) dm_X12_sortOf_35 rfl rfl (by omega) (fun hb4 => ?_) (fun hb4 => ?_)
        · refine me1 (pc' := 43) (L' := [(0, .ref 102), (1, ii (hd : Int))]) (S' := [.ref 102]) dm_X12_sortOf_42 rfl rfl rfl rfl ?_
          refine me1 (pc' := 44) (L' := [(0, .ref 102), (1, ii (hd : Int))]) (S' := [ii (hd : Int), .ref 102]) dm_X12_sortOf_43 rfl rfl rfl rfl ?_
          refine x_cp (pc' := 47) (v := ii (vk v : Int)) (rest := []) dm_X12_sortOf_44 rfl (q_inv (As := [ii (hd : Int)]) (S := []) hm rfl rfl rfl) rfl rfl rfl (r_kindOf_ hm (by omega) hB0 hv) ?_
          refine me0 (pc' := 49) (S' := [ii 6, ii (vk v : Int)]) dm_X12_sortOf_47 rfl rfl rfl rfl ?_
          refine y_2ne (a := (vk v : Int)) (b := 6) (t := 56) (pc' := 52) dm_X12_sortOf_49 rfl rfl (by omega) (fun hb5 => ?_) (fun hb5 => ?_)
          · refine me0 (pc' := 57) (S' := [ii 4]) dm_X12_sortOf_56 rfl rfl rfl rfl ?_
            refine y_ret (r := some (ii 4)) dm_X12_sortOf_57 rfl rfl rfl ?_
            exact ⟨congrArg some (n_ii (by unfold srtO; first | (rw [if_pos (by omega)]; rfl) | (rw [if_neg (by omega), if_pos (by omega)]; rfl) | (rw [if_neg (by omega), if_neg (by omega), if_pos (by omega)]; rfl) | (rw [if_neg (by omega), if_neg (by omega), if_neg (by omega)]; rfl))), rfl⟩
          · refine me0 (pc' := 53) (S' := [ii 3]) dm_X12_sortOf_52 rfl rfl rfl rfl ?_
            refine me2 (pc' := 57) (S' := [ii 3]) dm_X12_sortOf_53 rfl rfl rfl ?_
            refine y_ret (r := some (ii 3)) dm_X12_sortOf_57 rfl rfl rfl ?_
            exact ⟨congrArg some (n_ii (by unfold srtO; first | (rw [if_pos (by omega)]; rfl) | (rw [if_neg (by omega), if_pos (by omega)]; rfl) | (rw [if_neg (by omega), if_neg (by omega), if_pos (by omega)]; rfl) | (rw [if_neg (by omega), if_neg (by omega), if_neg (by omega)]; rfl))), rfl⟩
        · refine me0 (pc' := 39) (S' := [ii 2]) dm_X12_sortOf_38 rfl rfl rfl rfl ?_
          refine me2 (pc' := 57) (S' := [ii 2]) dm_X12_sortOf_39 rfl rfl rfl ?_
          refine y_ret (r := some (ii 2)) dm_X12_sortOf_57 rfl rfl rfl ?_
          exact ⟨congrArg some (n_ii (by unfold srtO; first | (rw [if_pos (by omega)]; rfl) | (rw [if_neg (by omega), if_pos (by omega)]; rfl) | (rw [if_neg (by omega), if_neg (by omega), if_pos (by omega)]; rfl) | (rw [if_neg (by omega), if_neg (by omega), if_neg (by omega)]; rfl))), rfl⟩
    · replace hb2 := dT hb2
      refine me0 (pc' := 17) (S' := [ii 1]) dm_X12_sortOf_16 rfl rfl rfl rfl ?_
      refine me2 (pc' := 57) (S' := [ii 1]) dm_X12_sortOf_17 rfl rfl rfl ?_
      refine y_ret (r := some (ii 1)) dm_X12_sortOf_57 rfl rfl rfl ?_
      exact ⟨congrArg some (n_ii (by unfold srtO; first | (rw [if_pos (by omega)]; rfl) | (rw [if_neg (by omega), if_pos (by omega)]; rfl) | (rw [if_neg (by omega), if_neg (by omega), if_pos (by omega)]; rfl) | (rw [if_neg (by omega), if_neg (by omega), if_neg (by omega)]; rfl))), rfl⟩
