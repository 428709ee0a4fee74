/-! PAIRED, from its asking to its end -/
theorem sumN_mul (n : Nat) (a b : Nat → Nat) : sumN n (fun k => a k * b k) ≤ sumN n a * sumN n b := by
  induction n with
  | zero => exact Nat.zero_le _
  | succ n ih =>
    show sumN n (fun k => a k * b k) + a n * b n ≤ (sumN n a + a n) * (sumN n b + b n)
    rw [Nat.add_mul, Nat.mul_add, Nat.mul_add]
    omega
theorem sumN_k (n : Nat) (f : Nat → Nat) (c : Nat) : sumN n (fun k => f k * c) = sumN n f * c := by
  induction n with
  | zero => exact (Nat.zero_mul c).symm
  | succ n ih =>
    show sumN n (fun k => f k * c) + f n * c = (sumN n f + f n) * c
    rw [ih, Nat.add_mul]
theorem sumN_c1 (n : Nat) : sumN n (fun _ => 1) = n := by
  induction n with
  | zero => rfl
  | succ n ih => show sumN n (fun _ => 1) + 1 = n + 1; rw [ih]
theorem vw_pat {d k : Nat} {v : VV} (h : vwf (d + 1) v) (hk : vk v = 7 → k < vm v) (hd : 1 ≤ d) : vwf d (pat v k) ∧ (vk v ≠ 7 → vsz d (pat v k) = vsz (d + 1) v) := by
  unfold pat
  by_cases z : vk v = 7
  · rw [if_pos z]; exact ⟨h.2 z k (hk z), fun y => absurd z y⟩
  · rw [if_neg z]
    obtain ⟨d', rfl⟩ : ∃ d', d = d' + 1 := ⟨d - 1, by omega⟩
    have h1 := vw_flat (L := d') h z
    exact ⟨h1.1, fun _ => h1.2.1⟩
theorem vq_vsz {d : Nat} {v : VV} (hw : vw1 v) : vq v ≤ vsz (d + 1) v ∧ (2 ≤ vk v → vq v + 1 ≤ vsz (d + 1) v) := by
  by_cases a : vk v ≤ 1
  · rw [vq_1 hw a, vsz_1 a]; exact ⟨Nat.le_refl _, fun z => by omega⟩
  · by_cases b : vk v = 7
    · rw [vq_7 b]; have := vsz_pos (d := d) (v := v); omega
    · have h1 := hw.1
      rw [vq_sz (d := d) (by omega) (by omega)]; omega
theorem vsz_7 {d : Nat} {v : VV} (h : vk v = 7) : vsz (d + 1) v = 1 + sumN (vm v) (fun k => vsz d (vd v k)) := by
  show (if vk v ≤ 1 then 1 else if vk v = 6 then _ else if vk v = 7 then 1 + sumN (vm v) (fun k => vsz d (vd v k)) else _) = _
  rw [if_neg (by omega), if_neg (by omega), if_pos h]
/-- what is made is no larger than its size tells -/
theorem pa_all (vb : Int) (d : Nat) : ∀ (v w : VV), vwf d v → vwf d w → paF vb d v w = 0 → 1 ≤ paS d v w ∧ paC d v w ≤ paS d v w ∧ (¬ (vk v ≤ 1 ∧ vk w ≤ 1) → paC d v w + 1 ≤ paS d v w) ∧ paM d v w + 1 ≤ paS d v w ∧ paK d v w ≤ paS d v w ∧ paS d v w ≤ vsz d v * vsz d w := by
  induction d with
  | zero => intro v w hv; exact hv.elim
  | succ d ih =>
    intro v w hv hw hF
    rw [paF_s] at hF
    rw [paS_s, paC_s, paM_s, paK_s]
    by_cases z : pflat v w
    · rw [if_pos z, if_pos z, if_pos z, if_pos z]
      have hl := lkV_w hv.1 hw.1
      have h1 := vq_vsz (d := d) hl
      have h2 := vsz_pos (d := d) (v := lkV v w)
      have h3 := vsz_pos (d := d) (v := v)
      have h4 := vsz_pos (d := d) (v := w)
      refine ⟨h2, h1.1, fun y => ?_, h2, h2, ?_⟩
      · refine h1.2 ?_
        unfold lkV
        split <;> omega
      · unfold lkV
        split
        · exact Nat.le_mul_of_pos_left _ h3
        · exact Nat.le_mul_of_pos_right _ h4
    · rw [if_neg z, if_neg z, if_neg z, if_neg z]
      rw [if_neg z] at hF
      have hmm : ¬ (vk v = 7 ∧ vk w = 7 ∧ vm v ≠ vm w) := fun y => by rw [if_pos y] at hF; omega
      rw [if_neg hmm] at hF
      have hn7 : vk v = 7 ∨ vk w = 7 := by
        by_cases y : vk v = 7
        · exact Or.inl y
        · by_cases x : vk w = 7
          · exact Or.inr x
          · exact absurd ⟨y, x⟩ z
      have hpn : (vk v = 7 → vm v = pnN v w) ∧ (vk w = 7 → vm w = pnN v w) := by
        rw [pnN_e hmm]
        by_cases y : vk v = 7
        · rw [if_pos y]; exact ⟨fun _ => rfl, fun _ => by omega⟩
        · rw [if_neg y]; exact ⟨fun x => absurd x y, fun _ => rfl⟩
      have hd : 0 < pnN v w → 1 ≤ d := by
        intro y
        cases d with
        | zero =>
          rcases hn7 with x | x
          · exact (hv.2 x 0 (by have := hpn.1 x; omega)).elim
          · exact (hw.2 x 0 (by have := hpn.2 x; omega)).elim
        | succ d => omega
      have hk : ∀ k, k < pnN v w → vwf d (pat v k) ∧ vwf d (pat w k) ∧ paF vb d (pat v k) (pat w k) = 0 := fun k hk => ⟨(vw_pat hv (fun y => by have := hpn.1 y; omega) (hd (by omega))).1, (vw_pat hw (fun y => by have := hpn.2 y; omega) (hd (by omega))).1, errs_all hF k hk⟩
      have hi := fun k hk1 => ih (pat v k) (pat w k) (hk k hk1).1 (hk k hk1).2.1 (hk k hk1).2.2
      have s1 : sumN (pnN v w) (fun k => paC d (pat v k) (pat w k)) ≤ sumN (pnN v w) (fun k => paS d (pat v k) (pat w k)) := sumN_le (fun k hk1 => (hi k hk1).2.1)
      have s2 : sumN (pnN v w) (fun k => paM d (pat v k) (pat w k) + 1) ≤ sumN (pnN v w) (fun k => paS d (pat v k) (pat w k)) := sumN_le (fun k hk1 => (hi k hk1).2.2.2.1)
      rw [sumN_add, sumN_c1] at s2
      have s3 : sumN (pnN v w) (fun k => paK d (pat v k) (pat w k)) ≤ sumN (pnN v w) (fun k => paS d (pat v k) (pat w k)) := sumN_le (fun k hk1 => (hi k hk1).2.2.2.2.1)
      have s4 : sumN (pnN v w) (fun k => paS d (pat v k) (pat w k)) ≤ sumN (pnN v w) (fun k => vsz d (pat v k) * vsz d (pat w k)) := sumN_le (fun k hk1 => (hi k hk1).2.2.2.2.2)
      refine ⟨by omega, by omega, fun _ => by omega, by omega, by omega, ?_⟩
      have p1 := vsz_pos (d := d) (v := v)
      have p2 := vsz_pos (d := d) (v := w)
      by_cases a : vk v = 7
      · have e1 : sumN (pnN v w) (fun k => vsz d (pat v k)) + 1 = vsz (d + 1) v := by
          rw [vsz_7 a, hpn.1 a, Nat.add_comm]
          congr 1
          exact sumN_congr (fun k _ => by unfold pat; rw [if_pos a])
        by_cases b : vk w = 7
        · have e2 : sumN (pnN v w) (fun k => vsz d (pat w k)) + 1 = vsz (d + 1) w := by
            rw [vsz_7 b, hpn.2 b, Nat.add_comm]
            congr 1
            exact sumN_congr (fun k _ => by unfold pat; rw [if_pos b])
          have s5 := sumN_mul (pnN v w) (fun k => vsz d (pat v k)) (fun k => vsz d (pat w k))
          rw [← e1, ← e2, Nat.add_mul, Nat.mul_add]
          omega
        · have e2 : sumN (pnN v w) (fun k => vsz d (pat v k) * vsz d (pat w k)) = sumN (pnN v w) (fun k => vsz d (pat v k)) * vsz (d + 1) w := by
            rw [← sumN_k]
            exact sumN_congr (fun k hk1 => by rw [(vw_pat hw (fun y => absurd y b) (hd (by omega))).2 b])
          rw [← e1, Nat.add_mul]
          omega
      · have b : vk w = 7 := by omega
        have e1 : sumN (pnN v w) (fun k => vsz d (pat w k)) + 1 = vsz (d + 1) w := by
          rw [vsz_7 b, hpn.2 b, Nat.add_comm]
          congr 1
          exact sumN_congr (fun k _ => by unfold pat; rw [if_pos b])
        have e2 : sumN (pnN v w) (fun k => vsz d (pat v k) * vsz d (pat w k)) = sumN (pnN v w) (fun k => vsz d (pat w k)) * vsz (d + 1) v := by
          rw [← sumN_k]
          exact sumN_congr (fun k hk1 => by rw [(vw_pat hv (fun y => absurd y a) (hd (by omega))).2 a, Nat.mul_comm])
        rw [← e1, Nat.mul_add, Nat.mul_comm]
        omega
def d_pair (vb : Int) (e : Nat) (v w : VV) : Nat ⊕ VV := if paF vb e v w ≠ 0 then .inl (paF vb e v w).toNat else if 1000 < paS e v w ∨ 5 < paL e v w then .inl 8 else .inr (paV vb e v w)
def prA (e : Nat) (v w : VV) : Nat := paK e v w + 2
def prB (e : Nat) (v w : VV) : Nat := paC e v w + paM e v w + 9 * paK e v w + 9
/-- the row of what is paired never changes any more -/
def rowA (A : Nat → Prop) (h : mj_H) (ra : Nat) : Nat → Prop := fun x => A x ∨ (h.length ≤ x ∧ x = ra)
theorem p_makeU {xt : mj_X} {A : Nat → Prop} {o nq ra mr d e p q u : Nat} {vb sz lv nm vmI : Int} {rw_ : Bool} {N F : Nat → Int64} {h : mj_H} {v w : VV} {vals : Value} {f1 : Nat → Value} (hx1 : xt 1 = some (.long, 0, f1)) (hoq : (o = 23 ∧ nq = 24) ∨ (o = 27 ∧ nq = 28)) (hvb : -2147483648 ≤ vb ∧ vb ≤ 2147483647) (hd : 8 * e + 16 ≤ d) (hl : 127 ≤ h.length) (hA : okA A h) (hv : cv A h (e + 1) p v) (hw : cv A h (e + 1) q w) (he : e ≤ 18) (ho : h[o]? = some (PO vb 0 nq sz lv nm vmI rw_ (.ref ra) vals 0 0)) (hnq : h[nq]? = some (cJ 1000 N)) (hrow : rowAt A h ra mr F) (hF : paF vb (e + 1) v w = 0) (hN : paN vb N (e + 1) v w 0) (hc : paC (e + 1) v w ≤ 999) (hR : paR (e + 1) v w = true → paC (e + 1) v w ≤ mr ∧ ∀ j, j < mr → F j = N j) (hM : paM (e + 1) v w = u) (hu : u ≤ 1000) (hS : paS (e + 1) v w ≤ 1000) (hva : u = 0 ∧ vals = .null ∨ ∃ va, vals = .ref va ∧ 127 ≤ va ∧ ¬ A va ∧ h[va]? = some (cA 4 u (fun _ => none))) : pgV xt d 104 [.ref o, .ref p, .ref q] h (fun x h' => ∃ va arr V, mkR A h o nq va u arr vals vb sz lv nm vmI rw_ ra 0 0 V (e + 1) v w x h' ∧ (arr → vals = .ref va ∧ va < h.length) ∧ (¬ arr → va = o)) := by
  rcases hva with ⟨h0, rfl⟩ | ⟨va, rfl, h1, h2, h3⟩
  · subst h0
    refine x_imp (p_makeN (va := 0) (V := fun _ => none) (nu := 0) (vu := 0) hx1 hoq hvb (by omega) rfl hl hA hv hw (by omega) ho hnq hrow hF hN (by omega) (fun z => by obtain ⟨y1, y2⟩ := hR z; exact ⟨by omega, y2⟩) (by omega) hS) ?_
    rintro r h' ⟨x, rfl, hx⟩
    exact ⟨x, rfl, o, False, _, hx, fun z => z.elim, fun _ => rfl⟩
  · refine x_imp (p_makeA hx1 hoq hvb hu h1 h2 (e + 1) (V := fun _ => none) (nu := 0) (vu := 0) (by omega) hl hA hv hw (by omega) ho hnq hrow hF hN (by omega) (fun z => by obtain ⟨y1, y2⟩ := hR z; exact ⟨by omega, y2⟩) (by omega) hS h3 trivial) ?_
    rintro r h' ⟨x, rfl, hx⟩
    exact ⟨x, rfl, va, True, _, hx, fun _ => ⟨rfl, hl_lt h3⟩, fun z => absurd trivial z⟩
/-- what is made, seen from where the act began -/
theorem mk_done {A : Nat → Prop} {h hb X h' : mj_H} {o nq va u ra m e : Nat} {arr : Prop} {vals ro0 va0 x : Value} {vb sz lv nm vmI nu0 vu0 f0 sz0 lv0 nm0 vm0 : Int} {rw_ rw0 : Bool} {V : Nat → Option Nat} {v w : VV} (hl : 127 ≤ h.length) (hoq : (o = 23 ∧ nq = 24) ∨ (o = 27 ∧ nq = 28)) (hs : scrS h hb) (hob : hb[o]? = some (PO vb f0 nq sz0 lv0 nm0 vm0 rw0 ro0 va0 nu0 vu0)) (hX2 : X.length ≤ 2) (hXs : mj_sl X ≤ m + u) (hu : paM (e + 1) v w = u) (hm : paC (e + 1) v w = m) (hmk : mkR (rowA A h ra) (hb.set o (PO vb 0 nq sz lv nm vmI rw_ (.ref ra) vals 0 0) ++ X) o nq va u arr vals vb sz lv nm vmI rw_ ra 0 0 V (e + 1) v w x h') (hra : h.length ≤ ra → ra < h.length + X.length) (hva : arr → h.length ≤ va ∧ va < h.length + X.length) (hnv : ¬ arr → va = o) : ∃ hs1, scrS h hs1 ∧ (∀ y, y ≠ o → hs1[y]? = hb[y]?) ∧ hs1[o]? = some (PO vb 0 nq sz lv nm vmI rw_ (.ref ra) vals ((0 + paC (e + 1) v w : Nat) : Int) ((0 + paM (e + 1) v w : Nat) : Int)) ∧ vres A hs1 (e + 1) (paV vb (e + 1) v w) (prA (e + 1) v w) (prB (e + 1) v w) x h' := by
  obtain ⟨q, V', fs, rfl, ⟨h1, Y, hh', g1, g2, g3, g4, g5⟩, k1, k2, k3, k4, k5, k6⟩ := hmk
  have hlo := hl_lt hob
  rw [hs.1] at hlo
  have hlE : (hb.set o (PO vb 0 nq sz lv nm vmI rw_ (.ref ra) vals 0 0) ++ X).length = h.length + X.length := by rw [List.length_append, List.length_set, hs.1]
  have hvo : va = o ∨ h.length ≤ va := by
    by_cases z : arr
    · exact Or.inr (hva z).1
    · exact Or.inl (hnv z)
  have hsp : h1 = h1.take h.length ++ h1.drop h.length := (List.take_append_drop _ _).symm
  have hl1 : h1.length = h.length + X.length := g1.trans hlE
  have hlt : (h1.take h.length).length = h.length := by rw [List.length_take]; omega
  have hto : (h1.take h.length)[o]? = some (PO vb 0 nq sz lv nm vmI rw_ (.ref ra) vals ((0 + paC (e + 1) v w : Nat) : Int) ((0 + paM (e + 1) v w : Nat) : Int)) := by
    rw [hh', List.getElem?_append_left (by omega)] at k1
    rw [List.getElem?_take_of_lt hlo]
    exact k1
  have htx : ∀ y, y ≠ o → (h1.take h.length)[y]? = hb[y]? := by
    intro y hy
    by_cases z : y < h.length
    · rw [List.getElem?_take_of_lt z, g3 y hy (by omega), List.getElem?_append_left (by rw [List.length_set, hs.1]; exact z), List.getElem?_set_ne (Ne.symm hy)]
    · rw [List.getElem?_eq_none (by omega), List.getElem?_eq_none (by rw [hs.1]; omega)]
  have hts : h1.take h.length = hb.set o (PO vb 0 nq sz lv nm vmI rw_ (.ref ra) vals ((0 + paC (e + 1) v w : Nat) : Int) ((0 + paM (e + 1) v w : Nat) : Int)) := by
    apply List.ext_getElem?
    intro y
    by_cases z : y = o
    · rw [z, hto, List.getElem?_set_self (by rw [hs.1]; exact hlo)]
    · rw [htx y z, List.getElem?_set_ne (Ne.symm z)]
  have hsl : mj_sl (h1.take h.length) = mj_sl hb := by rw [hts]; exact sl_set hob rfl
  have hsE : mj_sl (hb.set o (PO vb 0 nq sz lv nm vmI rw_ (.ref ra) vals 0 0) ++ X) = mj_sl hb + mj_sl X := by rw [sl_app, sl_set (e' := PO vb 0 nq sz lv nm vmI rw_ (.ref ra) vals 0 0) hob rfl]
  have hs1 : mj_sl h1 = mj_sl (h1.take h.length) + mj_sl (h1.drop h.length) := by conv => lhs; rw [hsp, sl_app]
  refine ⟨h1.take h.length, ⟨hlt, hsl.trans hs.2.1, fun y hy => ?_⟩, htx, hto, q, h1.drop h.length ++ Y, rfl, ?_, ?_, ?_, ?_⟩
  · rw [htx y (fun z => hy (by unfold scr; omega))]
    exact hs.2.2 y hy
  · rw [← List.append_assoc, ← hsp]; exact hh'
  · rw [List.length_append, List.length_drop]
    unfold prA
    omega
  · rw [sl_app]
    unfold prB
    omega
  · have hlh : h'.length = h.length + X.length + Y.length := by rw [hh', List.length_append, hl1]
    refine k6 _ h' V' (fun y c hy hg => ⟨?_, hg⟩) (fun z => ⟨k2 z, Or.inr ⟨by rw [hlt]; exact (hva z).1, by have := (hva z).2; omega⟩⟩) (fun _ _ _ => rfl)
    rcases hy with (hy | hy) | hy
    · exact Or.inl hy
    · refine Or.inr ⟨by rw [hlt]; exact hy.1, ?_⟩
      have h5 := hra (by omega)
      omega
    · rw [hlE] at hy
      exact Or.inr ⟨by rw [hlt]; omega, hy.2⟩
