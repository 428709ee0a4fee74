/-! PAIRED, all the way down -/
def pat (v : VV) (k : Nat) : VV := if vk v = 7 then vd v k else v
/-- how many are paired, where one of them is a nest -/
def pnN (v w : VV) : Nat := if vk v = 7 ∧ vk w = 7 ∧ vm v ≠ vm w then 0 else if vk v = 7 then vm v else vm w
theorem pnN_e {v w : VV} (h : ¬ (vk v = 7 ∧ vk w = 7 ∧ vm v ≠ vm w)) : pnN v w = (if vk v = 7 then vm v else vm w) := if_neg h
theorem pnN_b {v w : VV} {c : Nat} (h1 : vk v = 7 → vm v ≤ c) (h2 : vk v ≠ 7 → vm w ≤ c) : pnN v w ≤ c := by
  unfold pnN
  split
  · omega
  · split
    · exact h1 (by assumption)
    · exact h2 (by assumption)
abbrev pflat (v w : VV) : Prop := vk v ≠ 7 ∧ vk w ≠ 7
def orN : Nat → (Nat → Bool) → Bool
  | 0, _ => false
  | n + 1, f => orN n f || f n
/-- the fault -/
def paF (vb : Int) : Nat → VV → VV → Int
  | 0, _, _ => 0
  | d + 1, v, w => if pflat v w then flE vb v w (lkV v w) (vq (lkV v w)) else if vk v = 7 ∧ vk w = 7 ∧ vm v ≠ vm w then 4 else errs (fun k => paF vb d (pat v k) (pat w k)) (pnN v w)
/-- SIZE, LEVELS, how many numbers, how many values of nests, are there rows -/
def paS : Nat → VV → VV → Nat
  | 0, _, _ => 0
  | d + 1, v, w => if pflat v w then vsz (d + 1) (lkV v w) else 1 + sumN (pnN v w) (fun k => paS d (pat v k) (pat w k))
def paL : Nat → VV → VV → Nat
  | 0, _, _ => 0
  | d + 1, v, w => if pflat v w then vlv (d + 1) (lkV v w) else 1 + maxN (pnN v w) (fun k => paL d (pat v k) (pat w k))
def paC : Nat → VV → VV → Nat
  | 0, _, _ => 0
  | d + 1, v, w => if pflat v w then vq (lkV v w) else sumN (pnN v w) (fun k => paC d (pat v k) (pat w k))
def paM : Nat → VV → VV → Nat
  | 0, _, _ => 0
  | d + 1, v, w => if pflat v w then 0 else pnN v w + sumN (pnN v w) (fun k => paM d (pat v k) (pat w k))
def paR : Nat → VV → VV → Bool
  | 0, _, _ => false
  | d + 1, v, w => if pflat v w then decide (0 < vq (lkV v w) ∧ ¬ vk (lkV v w) ≤ 1) else orN (pnN v w) (fun k => paR d (pat v k) (pat w k))
/-- the numbers stand in N, from m on -/
def paN (vb : Int) (N : Nat → Int64) : Nat → VV → VV → Nat → Prop
  | 0, _, _, _ => True
  | d + 1, v, w, m => if pflat v w then ∀ j, j < vq (lkV v w) → m + j < 1000 → N (m + j) = (outT vb v w (lkV v w) j).2 else ∀ k, k < pnN v w → paN vb N d (pat v k) (pat w k) (m + sumN k (fun i => paC d (pat v i) (pat w i)))
theorem paN_s {vb : Int} {N : Nat → Int64} {d m : Nat} {v w : VV} : paN vb N (d + 1) v w m = (if pflat v w then ∀ j, j < vq (lkV v w) → m + j < 1000 → N (m + j) = (outT vb v w (lkV v w) j).2 else ∀ k, k < pnN v w → paN vb N d (pat v k) (pat w k) (m + sumN k (fun i => paC d (pat v i) (pat w i)))) := rfl
theorem paC_s {d : Nat} {v w : VV} : paC (d + 1) v w = (if pflat v w then vq (lkV v w) else sumN (pnN v w) (fun k => paC d (pat v k) (pat w k))) := rfl
theorem paF_s {vb : Int} {d : Nat} {v w : VV} : paF vb (d + 1) v w = (if pflat v w then flE vb v w (lkV v w) (vq (lkV v w)) else if vk v = 7 ∧ vk w = 7 ∧ vm v ≠ vm w then 4 else errs (fun k => paF vb d (pat v k) (pat w k)) (pnN v w)) := rfl
theorem paS_s {d : Nat} {v w : VV} : paS (d + 1) v w = (if pflat v w then vsz (d + 1) (lkV v w) else 1 + sumN (pnN v w) (fun k => paS d (pat v k) (pat w k))) := rfl
theorem paL_s {d : Nat} {v w : VV} : paL (d + 1) v w = (if pflat v w then vlv (d + 1) (lkV v w) else 1 + maxN (pnN v w) (fun k => paL d (pat v k) (pat w k))) := rfl
theorem paM_s {d : Nat} {v w : VV} : paM (d + 1) v w = (if pflat v w then 0 else pnN v w + sumN (pnN v w) (fun k => paM d (pat v k) (pat w k))) := rfl
theorem paR_s {d : Nat} {v w : VV} : paR (d + 1) v w = (if pflat v w then decide (0 < vq (lkV v w) ∧ ¬ vk (lkV v w) ≤ 1) else orN (pnN v w) (fun k => paR d (pat v k) (pat w k))) := rfl
theorem paN_big {vb : Int} {N : Nat → Int64} {d : Nat} : ∀ {v w : VV} {m : Nat}, 1000 ≤ m → paN vb N d v w m := by
  induction d with
  | zero => intro v w m _; trivial
  | succ d ih =>
    intro v w m hm
    rw [paN_s]
    split
    · intro j _ hj; omega
    · intro k _; exact ih (by omega)
theorem paN_keep {vb : Int} {N N' : Nat → Int64} {d : Nat} : ∀ {v w : VV} {m : Nat}, paN vb N d v w m → (∀ j, m ≤ j → j < m + paC d v w → j < 1000 → N' j = N j) → paN vb N' d v w m := by
  induction d with
  | zero => intro v w m _ _; trivial
  | succ d ih =>
    intro v w m h hk
    rw [paN_s] at h ⊢
    by_cases z : pflat v w
    · rw [if_pos z] at h ⊢
      rw [paC_s, if_pos z] at hk
      intro j h1 h2
      rw [hk (m + j) (by omega) (by omega) h2]
      exact h j h1 h2
    · rw [if_neg z] at h ⊢
      rw [paC_s, if_neg z] at hk
      intro k hkn
      refine ih (h k hkn) (fun j h1 h2 h3 => hk j (by omega) ?_ h3)
      have h4 : sumN (k + 1) (fun i => paC d (pat v i) (pat w i)) ≤ sumN (pnN v w) (fun i => paC d (pat v i) (pat w i)) := sumN_nm hkn
      have h5 : sumN (k + 1) (fun i => paC d (pat v i) (pat w i)) = sumN k (fun i => paC d (pat v i) (pat w i)) + paC d (pat v k) (pat w k) := rfl
      omega
theorem flE_r (vb : Int) (v w lk : VV) (k : Nat) : 0 ≤ flE vb v w lk k ∧ flE vb v w lk k ≤ 6 := by
  have h1 := askF_r v w
  have h2 : ∀ k, 0 ≤ errs (fun j => (outT vb v w lk j).1) k ∧ errs (fun j => (outT vb v w lk j).1) k ≤ 6 := by
    intro k
    induction k with
    | zero => exact ⟨Int.le_refl _, (by decide : (0 : Int) ≤ 6)⟩
    | succ k ih =>
      show 0 ≤ (if _ = 0 then _ else _) ∧ (if _ = 0 then _ else _) ≤ 6
      split
      · show 0 ≤ (outT vb v w lk k).1 ∧ (outT vb v w lk k).1 ≤ 6
        have h3 := outF_r vb (vk v) (vk w) (vnum v (k : Int)) (vnum w (k : Int))
        by_cases z : (outF vb (vk v) (vk w) (vnum v (k : Int)) (vnum w (k : Int))).1 = 0 ∧ vk lk = 6 ∧ fitsB (outF vb (vk v) (vk w) (vnum v (k : Int)) (vnum w (k : Int))).2 = false
        · rw [outT_6 z]; omega
        · rw [outT_1 z]; exact h3
      · exact ih
  unfold flE
  split
  · exact h2 k
  · omega
theorem errs_rg {g : Nat → Int} {b : Int} (hb : 0 ≤ b) (h : ∀ k, 0 ≤ g k ∧ g k ≤ b) (n : Nat) : 0 ≤ errs g n ∧ errs g n ≤ b := by
  induction n with
  | zero => exact ⟨Int.le_refl _, hb⟩
  | succ n ih =>
    show 0 ≤ (if errs g n = 0 then g n else errs g n) ∧ (if errs g n = 0 then g n else errs g n) ≤ b
    split
    · exact h n
    · exact ih
theorem paF_r (vb : Int) (d : Nat) : ∀ (v w : VV), 0 ≤ paF vb d v w ∧ paF vb d v w ≤ 6 := by
  induction d with
  | zero => intro v w; exact ⟨Int.le_refl _, by show (0 : Int) ≤ 6; decide⟩
  | succ d ih =>
    intro v w
    rw [paF_s]
    split
    · exact flE_r _ _ _ _ _
    · split
      · omega
      · exact errs_rg (by omega) (fun k => ih _ _) _
theorem vlv_f {d : Nat} {v : VV} (h : vk v ≠ 7) : vlv (d + 1) v ≤ 2 := by
  show (if vk v ≤ 1 then 0 else if vk v = 6 then 2 else if vk v = 7 then _ else 1) ≤ 2
  rw [if_neg h]
  split
  · omega
  · split <;> omega
theorem lkV_7 {v w : VV} (h : pflat v w) : vk (lkV v w) ≠ 7 := by
  unfold lkV
  split
  · exact h.2
  · exact h.1
theorem paL_le (d : Nat) : ∀ (v w : VV), paL d v w ≤ d + 2 := by
  induction d with
  | zero => intro v w; show 0 ≤ 2; omega
  | succ d ih =>
    intro v w
    rw [paL_s]
    split
    · rename_i z
      have := vlv_f (d := d) (lkV_7 z)
      omega
    · have := maxN_le (n := pnN v w) (f := fun k => paL d (pat v k) (pat w k)) (b := d + 2) (fun k _ => ih _ _)
      omega
/-- what asking has come to -/
def pAsk (vb : Int) (e : Nat) (v w : VV) (sz lv ar vm_ : Int) (rw_ : Bool) (m0 : Nat) (N0 : Nat → Int64) (f s l : Int) (m : Nat) (u : Int) (r : Bool) (N : Nat → Int64) : Prop := f = paF vb e v w ∧ (f = 0 → s = sz + (paS e v w : Int) ∧ l = max lv (ar + (paL e v w : Int)) ∧ m = min 1000 (m0 + paC e v w) ∧ u = vm_ + (paM e v w : Int) ∧ r = (rw_ || paR e v w) ∧ paN vb N e v w m0) ∧ m ≤ 1000 ∧ ∀ j, j < m0 → N j = N0 j
/-- what it has come to behind k of a nest's values -/
def pLp (vb : Int) (e : Nat) (v w : VV) (sz lv ar vm_ : Int) (rw_ : Bool) (m0 : Nat) (N0 : Nat → Int64) (k : Nat) (f s l : Int) (m : Nat) (u : Int) (r : Bool) (N : Nat → Int64) : Prop := f = errs (fun i => paF vb e (pat v i) (pat w i)) k ∧ (f = 0 → s = sz + 1 + (sumN k (fun i => paS e (pat v i) (pat w i)) : Int) ∧ l = max lv (ar + 1 + (maxN k (fun i => paL e (pat v i) (pat w i)) : Int)) ∧ m = min 1000 (m0 + sumN k (fun i => paC e (pat v i) (pat w i))) ∧ u = vm_ + (pnN v w : Int) + (sumN k (fun i => paM e (pat v i) (pat w i)) : Int) ∧ r = (rw_ || orN k (fun i => paR e (pat v i) (pat w i))) ∧ ∀ i, i < k → paN vb N e (pat v i) (pat w i) (m0 + sumN i (fun i => paC e (pat v i) (pat w i)))) ∧ m ≤ 1000 ∧ ∀ j, j < m0 → N j = N0 j
section PLP
variable {vb : Int} {e : Nat} {v w : VV} {sz lv ar vm_ : Int} {rw_ : Bool} {m0 : Nat} {N0 : Nat → Int64} {k : Nat} {f s l : Int} {m : Nat} {u : Int} {r : Bool} {N : Nat → Int64} {f' s' l' : Int} {m' : Nat} {u' : Int} {r' : Bool} {N' : Nat → Int64}
theorem pLp_0 (hm : m0 ≤ 1000) : pLp vb e v w sz lv ar vm_ rw_ m0 N0 0 0 (sz + 1) (max lv (ar + 1)) m0 (vm_ + (pnN v w : Int)) rw_ N0 := by
  refine ⟨rfl, fun _ => ⟨?_, ?_, ?_, ?_, ?_, fun i hi => absurd hi (Nat.not_lt_zero i)⟩, hm, fun _ _ => rfl⟩
  · show sz + 1 = sz + 1 + 0; omega
  · show max lv (ar + 1) = max lv (ar + 1 + 0); omega
  · show m0 = min 1000 (m0 + 0); omega
  · show vm_ + (pnN v w : Int) = vm_ + (pnN v w : Int) + 0; omega
  · show rw_ = (rw_ || false); rw [Bool.or_false]
theorem pLp_s (hm0 : m0 ≤ 1000) (h : pLp vb e v w sz lv ar vm_ rw_ m0 N0 k f s l m u r N) (hf : f = 0) (hc : pAsk vb e (pat v k) (pat w k) s l (ar + 1) u r m N f' s' l' m' u' r' N') : pLp vb e v w sz lv ar vm_ rw_ m0 N0 (k + 1) f' s' l' m' u' r' N' := by
  obtain ⟨h1, h2, h3, h4⟩ := h
  obtain ⟨a1, a2, a3, a4, a5, a6⟩ := h2 hf
  obtain ⟨c1, c2, c3, c4⟩ := hc
  refine ⟨?_, fun z => ?_, c3, fun j hj => ?_⟩
  · rw [errs_s0 (by rw [← h1]; exact hf)]; exact c1
  · obtain ⟨b1, b2, b3, b4, b5, b6⟩ := c2 z
    refine ⟨?_, ?_, ?_, ?_, ?_, fun i hi => ?_⟩
    · show s' = sz + 1 + ((sumN k _ + paS e (pat v k) (pat w k) : Nat) : Int)
      rw [b1, a1]; push_cast; omega
    · show l' = max lv (ar + 1 + ((max (maxN k _) (paL e (pat v k) (pat w k)) : Nat) : Int))
      rw [b2, a2]; omega
    · show m' = min 1000 (m0 + (sumN k _ + paC e (pat v k) (pat w k)))
      rw [b3, a3]; omega
    · show u' = vm_ + (pnN v w : Int) + ((sumN k _ + paM e (pat v k) (pat w k) : Nat) : Int)
      rw [b4, a4]; push_cast; omega
    · show r' = (rw_ || (orN k _ || paR e (pat v k) (pat w k)))
      rw [b5, a5, Bool.or_assoc]
    · by_cases y : i = k
      · subst y
        by_cases x : m0 + sumN i (fun i => paC e (pat v i) (pat w i)) ≤ 1000
        · rw [show m0 + sumN i (fun i => paC e (pat v i) (pat w i)) = m by rw [a3]; omega]; exact b6
        · exact paN_big (by omega)
      · refine paN_keep (a6 i (by omega)) (fun j j1 j2 j3 => c4 j ?_)
        have h5 : sumN (i + 1) (fun i => paC e (pat v i) (pat w i)) ≤ sumN k (fun i => paC e (pat v i) (pat w i)) := sumN_nm (by omega)
        have h6 : sumN (i + 1) (fun i => paC e (pat v i) (pat w i)) = sumN i (fun i => paC e (pat v i) (pat w i)) + paC e (pat v i) (pat w i) := rfl
        rw [a3]
        omega
  · have h5 : m0 ≤ m := by rw [a3]; omega
    rw [c4 j (by omega)]; exact h4 j hj
theorem pLp_end (h : pLp vb e v w sz lv ar vm_ rw_ m0 N0 k f s l m u r N) (hn : ¬ pflat v w) (hm : ¬ (vk v = 7 ∧ vk w = 7 ∧ vm v ≠ vm w)) (hk : k ≤ pnN v w) (he : k = pnN v w ∨ f ≠ 0) : pAsk vb (e + 1) v w sz lv ar vm_ rw_ m0 N0 f s l m u r N := by
  obtain ⟨h1, h2, h3, h4⟩ := h
  have hfe : f = paF vb (e + 1) v w := by
    rw [paF_s, if_neg hn, if_neg hm]
    rcases he with rfl | he
    · exact h1
    · have := errs_mono (g := fun i => paF vb e (pat v i) (pat w i)) (k := k) (by rw [← h1]; exact he) (pnN v w - k)
      rw [show k + (pnN v w - k) = pnN v w by omega] at this
      rw [this]; exact h1
  refine ⟨hfe, fun z => ?_, h3, h4⟩
  have hkn : k = pnN v w := he.elim id (fun y => absurd z y)
  obtain ⟨a1, a2, a3, a4, a5, a6⟩ := h2 z
  rw [hkn] at a1 a2 a3 a4 a5 a6
  rw [paS_s, paL_s, paC_s, paM_s, paR_s, paN_s, if_neg hn, if_neg hn, if_neg hn, if_neg hn, if_neg hn, if_neg hn]
  refine ⟨by rw [a1]; push_cast; omega, by rw [a2]; push_cast; omega, a3, by rw [a4]; push_cast; omega, a5, a6⟩
end PLP
theorem cv_kid_pos {A : Nat → Prop} {h : mj_H} {e p k : Nat} {v : VV} (hv : cv A h (e + 1) p v) (h7 : vk v = 7) (hk : k < vm v) : 1 ≤ e := by
  have h1 := (cv_wf hv).2 h7 k hk
  cases e with
  | zero => exact h1.elim
  | succ e => omega
/-- what no nest is means the same at any depth -/
theorem cv_any {A : Nat → Prop} {h : mj_H} {e L p : Nat} {v : VV} (hv : cv A h (e + 1) p v) (h7 : vk v ≠ 7) : cv A h (L + 1) p v := by
  obtain ⟨-, e1, e2⟩ := vw_flat (L := L) (cv_wf hv) h7
  obtain ⟨hw, hp2, hsz, hlv, row, fr, vals, hp, hfr, g1, g3, g7⟩ := hv
  exact ⟨hw, hp2, by rw [e1]; exact hsz, by rw [e2]; exact hlv, row, fr, vals, by rw [e1, e2]; exact hp, hfr, g1, g3, fun z => absurd z h7⟩
theorem c_valueAtP {xt : mj_X} {d e p k : Nat} {A : Nat → Prop} {h : mj_H} {v : VV} (hd : 1 ≤ d) (hv : cv A h (e + 1) p v) (hk : vk v = 7 → k < vm v) (he : 1 ≤ e) : ∃ q, cv A h e q (pat v k) ∧ pgP xt d 77 [.ref p, ii ((k : Nat) : Int)] h (.ref q) := by
  unfold pat
  by_cases z : vk v = 7
  · rw [if_pos z]
    obtain ⟨q, h1, h2⟩ := c_valueAt7 (xt := xt) (i := ((k : Nat) : Int)) hd hv z (by omega) (by have := hk z; omega)
    exact ⟨q, h1, h2⟩
  · rw [if_neg z]
    obtain ⟨e', rfl⟩ : ∃ e', e = e' + 1 := ⟨e - 1, by omega⟩
    exact ⟨p, cv_any hv z, c_valueAtF hd hv z⟩
set_option maxRecDepth 20000 in
theorem pm_X5_ask : mj_mmof pg_ms 87 = some ((⟨"ArrayCalculator$Paired", "ask", "(LArrayCalculator$Value;LArrayCalculator$Value;I)V"⟩, prog_7_method_3_code, 6, (Option.none : Option Jvm.ClassFile.FieldType)), 5, false, mj_dec prog_7_method_3_code) := rfl
theorem dm_X5_ask_0 : mj_dec prog_7_method_3_code 0 = some (.aload_n 1, 1) := by decide +kernel
theorem dm_X5_ask_1 : mj_dec prog_7_method_3_code 1 = some (.getfield 50, 3) := by decide +kernel
theorem dm_X5_ask_4 : mj_dec prog_7_method_3_code 4 = some (.bipush 7, 2) := by decide +kernel
theorem dm_X5_ask_6 : mj_dec prog_7_method_3_code 6 = some (.if_icmp .eq 20, 3) := by decide +kernel
theorem dm_X5_ask_9 : mj_dec prog_7_method_3_code 9 = some (.aload_n 2, 1) := by decide +kernel
theorem dm_X5_ask_10 : mj_dec prog_7_method_3_code 10 = some (.getfield 50, 3) := by decide +kernel
theorem dm_X5_ask_13 : mj_dec prog_7_method_3_code 13 = some (.bipush 7, 2) := by decide +kernel
theorem dm_X5_ask_15 : mj_dec prog_7_method_3_code 15 = some (.if_icmp .eq 11, 3) := by decide +kernel
theorem dm_X5_ask_18 : mj_dec prog_7_method_3_code 18 = some (.aload_n 0, 1) := by decide +kernel
theorem dm_X5_ask_19 : mj_dec prog_7_method_3_code 19 = some (.aload_n 1, 1) := by decide +kernel
theorem dm_X5_ask_20 : mj_dec prog_7_method_3_code 20 = some (.aload_n 2, 1) := by decide +kernel
theorem dm_X5_ask_21 : mj_dec prog_7_method_3_code 21 = some (.iload_n 3, 1) := by decide +kernel
theorem dm_X5_ask_22 : mj_dec prog_7_method_3_code 22 = some (.invokevirtual 55, 3) := by decide +kernel
theorem dm_X5_ask_25 : mj_dec prog_7_method_3_code 25 = some (.return_, 1) := by decide +kernel
theorem dm_X5_ask_26 : mj_dec prog_7_method_3_code 26 = some (.aload_n 1, 1) := by decide +kernel
theorem dm_X5_ask_27 : mj_dec prog_7_method_3_code 27 = some (.getfield 50, 3) := by decide +kernel
theorem dm_X5_ask_30 : mj_dec prog_7_method_3_code 30 = some (.bipush 7, 2) := by decide +kernel
theorem dm_X5_ask_32 : mj_dec prog_7_method_3_code 32 = some (.if_icmp .ne 29, 3) := by decide +kernel
theorem dm_X5_ask_35 : mj_dec prog_7_method_3_code 35 = some (.aload_n 2, 1) := by decide +kernel
theorem dm_X5_ask_36 : mj_dec prog_7_method_3_code 36 = some (.getfield 50, 3) := by decide +kernel
theorem dm_X5_ask_39 : mj_dec prog_7_method_3_code 39 = some (.bipush 7, 2) := by decide +kernel
theorem dm_X5_ask_41 : mj_dec prog_7_method_3_code 41 = some (.if_icmp .ne 20, 3) := by decide +kernel
theorem dm_X5_ask_44 : mj_dec prog_7_method_3_code 44 = some (.aload_n 1, 1) := by decide +kernel
theorem dm_X5_ask_45 : mj_dec prog_7_method_3_code 45 = some (.getfield 59, 3) := by decide +kernel
theorem dm_X5_ask_48 : mj_dec prog_7_method_3_code 48 = some (.aload_n 2, 1) := by decide +kernel
theorem dm_X5_ask_49 : mj_dec prog_7_method_3_code 49 = some (.getfield 59, 3) := by decide +kernel
theorem dm_X5_ask_52 : mj_dec prog_7_method_3_code 52 = some (.if_icmp .eq 9, 3) := by decide +kernel
theorem dm_X5_ask_55 : mj_dec prog_7_method_3_code 55 = some (.aload_n 0, 1) := by decide +kernel
theorem dm_X5_ask_56 : mj_dec prog_7_method_3_code 56 = some (.iconst 4, 1) := by decide +kernel
theorem dm_X5_ask_57 : mj_dec prog_7_method_3_code 57 = some (.putfield 25, 3) := by decide +kernel
theorem dm_X5_ask_60 : mj_dec prog_7_method_3_code 60 = some (.return_, 1) := by decide +kernel
theorem dm_X5_ask_61 : mj_dec prog_7_method_3_code 61 = some (.aload_n 1, 1) := by decide +kernel
theorem dm_X5_ask_62 : mj_dec prog_7_method_3_code 62 = some (.getfield 50, 3) := by decide +kernel
theorem dm_X5_ask_65 : mj_dec prog_7_method_3_code 65 = some (.bipush 7, 2) := by decide +kernel
theorem dm_X5_ask_67 : mj_dec prog_7_method_3_code 67 = some (.if_icmp .ne 10, 3) := by decide +kernel
theorem dm_X5_ask_70 : mj_dec prog_7_method_3_code 70 = some (.aload_n 1, 1) := by decide +kernel
theorem dm_X5_ask_71 : mj_dec prog_7_method_3_code 71 = some (.getfield 59, 3) := by decide +kernel
theorem dm_X5_ask_74 : mj_dec prog_7_method_3_code 74 = some (.goto 7, 3) := by decide +kernel
theorem dm_X5_ask_77 : mj_dec prog_7_method_3_code 77 = some (.aload_n 2, 1) := by decide +kernel
theorem dm_X5_ask_78 : mj_dec prog_7_method_3_code 78 = some (.getfield 59, 3) := by decide +kernel
theorem dm_X5_ask_81 : mj_dec prog_7_method_3_code 81 = some (.istore 4, 2) := by decide +kernel
theorem dm_X5_ask_83 : mj_dec prog_7_method_3_code 83 = some (.aload_n 0, 1) := by decide +kernel
theorem dm_X5_ask_84 : mj_dec prog_7_method_3_code 84 = some (.dup, 1) := by decide +kernel
theorem dm_X5_ask_85 : mj_dec prog_7_method_3_code 85 = some (.getfield 28, 3) := by decide +kernel
theorem dm_X5_ask_88 : mj_dec prog_7_method_3_code 88 = some (.iconst 1, 1) := by decide +kernel
theorem dm_X5_ask_89 : mj_dec prog_7_method_3_code 89 = some (.iadd, 1) := by decide +kernel
theorem dm_X5_ask_90 : mj_dec prog_7_method_3_code 90 = some (.putfield 28, 3) := by decide +kernel
theorem dm_X5_ask_93 : mj_dec prog_7_method_3_code 93 = some (.aload_n 0, 1) := by decide +kernel
theorem dm_X5_ask_94 : mj_dec prog_7_method_3_code 94 = some (.aload_n 0, 1) := by decide +kernel
theorem dm_X5_ask_95 : mj_dec prog_7_method_3_code 95 = some (.getfield 31, 3) := by decide +kernel
theorem dm_X5_ask_98 : mj_dec prog_7_method_3_code 98 = some (.iload_n 3, 1) := by decide +kernel
theorem dm_X5_ask_99 : mj_dec prog_7_method_3_code 99 = some (.iconst 1, 1) := by decide +kernel
theorem dm_X5_ask_100 : mj_dec prog_7_method_3_code 100 = some (.iadd, 1) := by decide +kernel
theorem dm_X5_ask_101 : mj_dec prog_7_method_3_code 101 = some (.invokestatic 62, 3) := by decide +kernel
theorem dm_X5_ask_104 : mj_dec prog_7_method_3_code 104 = some (.putfield 31, 3) := by decide +kernel
theorem dm_X5_ask_107 : mj_dec prog_7_method_3_code 107 = some (.aload_n 0, 1) := by decide +kernel
theorem dm_X5_ask_108 : mj_dec prog_7_method_3_code 108 = some (.dup, 1) := by decide +kernel
theorem dm_X5_ask_109 : mj_dec prog_7_method_3_code 109 = some (.getfield 37, 3) := by decide +kernel
theorem dm_X5_ask_112 : mj_dec prog_7_method_3_code 112 = some (.iload 4, 2) := by decide +kernel
theorem dm_X5_ask_114 : mj_dec prog_7_method_3_code 114 = some (.iadd, 1) := by decide +kernel
theorem dm_X5_ask_115 : mj_dec prog_7_method_3_code 115 = some (.putfield 37, 3) := by decide +kernel
theorem dm_X5_ask_118 : mj_dec prog_7_method_3_code 118 = some (.iconst 0, 1) := by decide +kernel
theorem dm_X5_ask_119 : mj_dec prog_7_method_3_code 119 = some (.istore 5, 2) := by decide +kernel
theorem dm_X5_ask_121 : mj_dec prog_7_method_3_code 121 = some (.iload 5, 2) := by decide +kernel
theorem dm_X5_ask_123 : mj_dec prog_7_method_3_code 123 = some (.iload 4, 2) := by decide +kernel
theorem dm_X5_ask_125 : mj_dec prog_7_method_3_code 125 = some (.if_icmp .ge 35, 3) := by decide +kernel
theorem dm_X5_ask_128 : mj_dec prog_7_method_3_code 128 = some (.aload_n 0, 1) := by decide +kernel
theorem dm_X5_ask_129 : mj_dec prog_7_method_3_code 129 = some (.getfield 25, 3) := by decide +kernel
theorem dm_X5_ask_132 : mj_dec prog_7_method_3_code 132 = some (.ifCond .ne 28, 3) := by decide +kernel
theorem dm_X5_ask_135 : mj_dec prog_7_method_3_code 135 = some (.aload_n 0, 1) := by decide +kernel
theorem dm_X5_ask_136 : mj_dec prog_7_method_3_code 136 = some (.aload_n 1, 1) := by decide +kernel
theorem dm_X5_ask_137 : mj_dec prog_7_method_3_code 137 = some (.iload 5, 2) := by decide +kernel
theorem dm_X5_ask_139 : mj_dec prog_7_method_3_code 139 = some (.invokevirtual 68, 3) := by decide +kernel
theorem dm_X5_ask_142 : mj_dec prog_7_method_3_code 142 = some (.aload_n 2, 1) := by decide +kernel
theorem dm_X5_ask_143 : mj_dec prog_7_method_3_code 143 = some (.iload 5, 2) := by decide +kernel
theorem dm_X5_ask_145 : mj_dec prog_7_method_3_code 145 = some (.invokevirtual 68, 3) := by decide +kernel
theorem dm_X5_ask_148 : mj_dec prog_7_method_3_code 148 = some (.iload_n 3, 1) := by decide +kernel
theorem dm_X5_ask_149 : mj_dec prog_7_method_3_code 149 = some (.iconst 1, 1) := by decide +kernel
theorem dm_X5_ask_150 : mj_dec prog_7_method_3_code 150 = some (.iadd, 1) := by decide +kernel
theorem dm_X5_ask_151 : mj_dec prog_7_method_3_code 151 = some (.invokevirtual 72, 3) := by decide +kernel
theorem dm_X5_ask_154 : mj_dec prog_7_method_3_code 154 = some (.iinc 5 1, 3) := by decide +kernel
theorem dm_X5_ask_157 : mj_dec prog_7_method_3_code 157 = some (.goto (-36), 3) := by decide +kernel
theorem dm_X5_ask_160 : mj_dec prog_7_method_3_code 160 = some (.return_, 1) := by decide +kernel
theorem p_ask {xt : mj_X} {A : Nat → Prop} {o nq : Nat} {vb : Int} {f1 : Nat → Value} (hx1 : xt 1 = some (.long, 0, f1)) (hoq : (o = 23 ∧ nq = 24) ∨ (o = 27 ∧ nq = 28)) (hvb : -2147483648 ≤ vb ∧ vb ≤ 2147483647) : ∀ (e : Nat) {d p q m0 : Nat} {h : mj_H} {v w : VV} {sz lv ar vm_ nu vu : Int} {rw_ : Bool} {ro va : Value} {N0 : Nat → Int64}, 8 * e + 8 ≤ d → okA A h → cv A h e p v → cv A h e q w → h[o]? = some (PO vb 0 nq sz lv ((m0 : Nat) : Int) vm_ rw_ ro va nu vu) → h[nq]? = some (cJ 1000 N0) → m0 ≤ 1000 → (0 ≤ lv ∧ lv ≤ 500) → (0 ≤ ar ∧ ar + (e : Int) ≤ 100) → e ≤ 50 → pgN xt d 87 [.ref o, .ref p, .ref q, ii ar] h (fun h' => ∃ (m : Nat) (N : Nat → Int64) (f s l u : Int) (r : Bool), h' = (h.set o (PO vb f nq s l ((m : Nat) : Int) u r ro va nu vu)).set nq (cJ 1000 N) ∧ pAsk vb e v w sz lv ar vm_ rw_ m0 N0 f s l m u r N) := by
  intro e
  induction e with
  | zero => intro d p q m0 h v w sz lv ar vm_ nu vu rw_ ro va N0 _ _ hv; exact hv.elim
  | succ e ih =>
    intro d p q m0 h v w sz lv ar vm_ nu vu rw_ ro va N0 hd hA hv hw ho hnq hm0 hlv har he
    obtain ⟨row, fr, vals, hp, hp2, hpA, hvk, hvm, hvc, hvs, hvl⟩ := cv_val hv
    obtain ⟨row2, fr2, vals2, hq, hq2, hqA, hwk, hwm, hwc, hws, hwl⟩ := cv_val hw
    have hpb := hA p hpA
    have hqb := hA q hqA
    refine x_enter pm_X5_ask (L0 := [(0, .ref o), (1, .ref p), (2, .ref q), (3, ii ar)]) rfl (Nat.le_of_ble_eq_true rfl) (by omega) ?_
    have cut61 : (¬ pflat v w) → (¬ (vk v = 7 ∧ vk w = 7 ∧ vm v ≠ vm w)) → pgE xt (d - 1) 5 6 false (Option.none : Option Jvm.ClassFile.FieldType) (mj_dec prog_7_method_3_code) 61 [(0, .ref o), (1, .ref p), (2, .ref q), (3, ii ar)] [] h (fun r_ h' => r_ = none ∧ ∃ (m : Nat) (N : Nat → Int64) (f s l u : Int) (r : Bool), h' = (h.set o (PO vb f nq s l ((m : Nat) : Int) u r ro va nu vu)).set nq (cJ 1000 N) ∧ pAsk vb (e + 1) v w sz lv ar vm_ rw_ m0 N0 f s l m u r N) := by
      intro hnf hmm
      have hn7 : vk v = 7 ∨ vk w = 7 := by by_cases z : vk v = 7; exact Or.inl z; by_cases y : vk w = 7; exact Or.inr y; exact absurd ⟨z, y⟩ hnf
      have hpn : (vk v = 7 → vm v = pnN v w) ∧ (vk w = 7 → vm w = pnN v w) := by rw [pnN_e hmm]; by_cases z : vk v = 7; (rw [if_pos z]; exact ⟨fun _ => rfl, fun _ => by omega⟩); (rw [if_neg z]; exact ⟨fun y => absurd y z, fun _ => rfl⟩)
      have hpn2 : pnN v w ≤ 120 := pnN_b (fun _ => by omega) (fun _ => by omega)
      refine me1 (pc' := 62) (L' := [(0, .ref o), (1, .ref p), (2, .ref q), (3, ii ar)]) (S' := [.ref p]) dm_X5_ask_61 rfl rfl rfl rfl ?_
      refine me3 (pc' := 65) (S' := [ii (vk v : Int)]) dm_X5_ask_62 (g_get (v := ii (vk v : Int)) hp rfl rfl (by omega)) rfl rfl rfl ?_
      refine me0 (pc' := 67) (S' := [ii 7, ii (vk v : Int)]) dm_X5_ask_65 rfl rfl rfl rfl ?_
      refine y_2ne (a := (vk v : Int)) (b := 7) (t := 77) (pc' := 70) dm_X5_ask_67 rfl rfl (by omega) (fun hb1 => ?_) (fun hb1 => ?_)
      · refine me1 (pc' := 78) (L' := [(0, .ref o), (1, .ref p), (2, .ref q), (3, ii ar)]) (S' := [.ref q]) dm_X5_ask_77 rfl rfl rfl rfl ?_
        refine me3 (pc' := 81) (S' := [ii (vm w : Int)]) dm_X5_ask_78 (g_get (v := ii (vm w : Int)) hq rfl rfl (by omega)) rfl rfl rfl ?_
        refine pg_st0 (S' := [ii ((pnN v w : Nat) : Int)]) (congrArg (fun z => ii z :: []) (by rw [pnN_e (by omega)]; first | rw [if_pos (by omega)] | rw [if_neg (by omega)])) ?_
        refine me1 (pc' := 83) (L' := [(4, ii ((pnN v w : Nat) : Int)), (0, .ref o), (1, .ref p), (2, .ref q), (3, ii ar)]) (S' := []) dm_X5_ask_81 rfl rfl rfl rfl ?_
        refine me1 (pc' := 84) (L' := [(4, ii ((pnN v w : Nat) : Int)), (0, .ref o), (1, .ref p), (2, .ref q), (3, ii ar)]) (S' := [.ref o]) dm_X5_ask_83 rfl rfl rfl rfl ?_
        refine me0 (pc' := 85) (S' := [.ref o, .ref o]) dm_X5_ask_84 rfl rfl rfl rfl ?_
        refine me3 (pc' := 88) (S' := [ii sz, .ref o]) dm_X5_ask_85 (g_get (v := ii sz) ho rfl rfl (by omega)) rfl rfl rfl ?_
        refine me0 (pc' := 89) (S' := [ii 1, ii sz, .ref o]) dm_X5_ask_88 rfl rfl rfl rfl ?_
        refine y_iadd (a := sz) (b := 1) dm_X5_ask_89 (pc' := 90) rfl ?_
        refine me3 (pc' := 93) (S' := []) (h1 := (h).set o (cO 5 [ii vb, ii 0, .ref nq, ii (sz + 1), ii lv, ii ((m0 : Nat) : Int), ii vm_, zz rw_, ro, va, ii nu, ii vu])) dm_X5_ask_90 (g_put (fs' := [ii vb, ii 0, .ref nq, ii (sz + 1), ii lv, ii ((m0 : Nat) : Int), ii vm_, zz rw_, ro, va, ii nu, ii vu]) ho rfl rfl rfl (by simp) rfl (by decide) (fun z => by cases z) (by omega)) rfl rfl rfl ?_
        refine me1 (pc' := 94) (L' := [(4, ii ((pnN v w : Nat) : Int)), (0, .ref o), (1, .ref p), (2, .ref q), (3, ii ar)]) (S' := [.ref o]) dm_X5_ask_93 rfl rfl rfl rfl ?_
        refine me1 (pc' := 95) (L' := [(4, ii ((pnN v w : Nat) : Int)), (0, .ref o), (1, .ref p), (2, .ref q), (3, ii ar)]) (S' := [.ref o, .ref o]) dm_X5_ask_94 rfl rfl rfl rfl ?_
        refine me3 (pc' := 98) (S' := [ii lv, .ref o]) dm_X5_ask_95 (g_get (v := ii lv) (hl_set (hl_lt ho)) rfl rfl (by omega)) rfl rfl rfl ?_
        refine me1 (pc' := 99) (L' := [(4, ii ((pnN v w : Nat) : Int)), (0, .ref o), (1, .ref p), (2, .ref q), (3, ii ar)]) (S' := [ii ar, ii lv, .ref o]) dm_X5_ask_98 rfl rfl rfl rfl ?_
        refine me0 (pc' := 100) (S' := [ii 1, ii ar, ii lv, .ref o]) dm_X5_ask_99 rfl rfl rfl rfl ?_
        refine y_iadd (a := ar) (b := 1) dm_X5_ask_100 (pc' := 101) rfl ?_
        refine y_pr (i := .iadd) (pc' := 104) (S' := [ii (max lv (ar + 1)), .ref o]) dm_X5_ask_101 rfl (p_imax (by omega) (by omega) (by omega) (by omega) rfl) (by omega) rfl ?_
        refine me3 (pc' := 107) (S' := []) (h1 := (h).set o (cO 5 [ii vb, ii 0, .ref nq, ii (sz + 1), ii (max lv (ar + 1)), ii ((m0 : Nat) : Int), ii vm_, zz rw_, ro, va, ii nu, ii vu])) dm_X5_ask_104 (g_put (fs' := [ii vb, ii 0, .ref nq, ii (sz + 1), ii (max lv (ar + 1)), ii ((m0 : Nat) : Int), ii vm_, zz rw_, ro, va, ii nu, ii vu]) (hl_set (hl_lt ho)) rfl (by rw [List.set_set]) rfl (by simp) rfl (by decide) (fun z => by cases z) (by omega)) rfl rfl rfl ?_
        refine me1 (pc' := 108) (L' := [(4, ii ((pnN v w : Nat) : Int)), (0, .ref o), (1, .ref p), (2, .ref q), (3, ii ar)]) (S' := [.ref o]) dm_X5_ask_107 rfl rfl rfl rfl ?_
        refine me0 (pc' := 109) (S' := [.ref o, .ref o]) dm_X5_ask_108 rfl rfl rfl rfl ?_
        refine me3 (pc' := 112) (S' := [ii vm_, .ref o]) dm_X5_ask_109 (g_get (v := ii vm_) (hl_set (hl_lt ho)) rfl rfl (by omega)) rfl rfl rfl ?_
        refine me1 (pc' := 114) (L' := [(4, ii ((pnN v w : Nat) : Int)), (0, .ref o), (1, .ref p), (2, .ref q), (3, ii ar)]) (S' := [ii ((pnN v w : Nat) : Int), ii vm_, .ref o]) dm_X5_ask_112 rfl rfl rfl rfl ?_
        refine y_iadd (a := vm_) (b := ((pnN v w : Nat) : Int)) dm_X5_ask_114 (pc' := 115) rfl ?_
        refine me3 (pc' := 118) (S' := []) (h1 := (h).set o (cO 5 [ii vb, ii 0, .ref nq, ii (sz + 1), ii (max lv (ar + 1)), ii ((m0 : Nat) : Int), ii (vm_ + ((pnN v w : Nat) : Int)), zz rw_, ro, va, ii nu, ii vu])) dm_X5_ask_115 (g_put (fs' := [ii vb, ii 0, .ref nq, ii (sz + 1), ii (max lv (ar + 1)), ii ((m0 : Nat) : Int), ii (vm_ + ((pnN v w : Nat) : Int)), zz rw_, ro, va, ii nu, ii vu]) (hl_set (hl_lt ho)) rfl (by rw [List.set_set]) rfl (by simp) rfl (by decide) (fun z => by cases z) (by omega)) rfl rfl rfl ?_
        refine me0 (pc' := 119) (S' := [ii 0]) dm_X5_ask_118 rfl rfl rfl rfl ?_
        refine me1 (pc' := 121) (L' := [(5, ii 0), (4, ii ((pnN v w : Nat) : Int)), (0, .ref o), (1, .ref p), (2, .ref q), (3, ii ar)]) (S' := []) dm_X5_ask_119 rfl rfl rfl rfl ?_
        have lp121 : ∀ (n121 : Nat) (k : Nat) (f : Int) (s : Int) (l : Int) (m : Nat) (u : Int) (r : Bool) (N : Nat → Int64), pnN v w - k = n121 → (k ≤ pnN v w) → (pLp vb e v w sz lv ar vm_ rw_ m0 N0 k f s l m u r N) → pgE xt (d - 1) 5 6 false (Option.none : Option Jvm.ClassFile.FieldType) (mj_dec prog_7_method_3_code) 121 [(0, .ref o), (1, .ref p), (2, .ref q), (3, ii ar), (4, ii ((pnN v w : Nat) : Int)), (5, ii ((k : Nat) : Int))] [] (((h).set o (cO 5 [ii vb, ii f, .ref nq, ii s, ii l, ii ((m : Nat) : Int), ii u, zz r, ro, va, ii nu, ii vu])).set nq (cJ 1000 N)) (fun r_ h' => r_ = none ∧ ∃ (m : Nat) (N : Nat → Int64) (f s l u : Int) (r : Bool), h' = (h.set o (PO vb f nq s l ((m : Nat) : Int) u r ro va nu vu)).set nq (cJ 1000 N) ∧ pAsk vb (e + 1) v w sz lv ar vm_ rw_ m0 N0 f s l m u r N) := by
          intro n121
          induction n121 using Nat.strongRecOn with
          | ind n121 ih121 =>
            intro k f s l m u r N hm121 hk hL
            have hfr : 0 ≤ f ∧ f ≤ 6 := by rw [hL.1]; exact errs_rg (by omega) (fun i => paF_r _ _ _ _) k
            refine me1 (pc' := 123) (L' := [(0, .ref o), (1, .ref p), (2, .ref q), (3, ii ar), (4, ii ((pnN v w : Nat) : Int)), (5, ii ((k : Nat) : Int))]) (S' := [ii ((k : Nat) : Int)]) dm_X5_ask_121 rfl rfl rfl rfl ?_
            refine me1 (pc' := 125) (L' := [(0, .ref o), (1, .ref p), (2, .ref q), (3, ii ar), (4, ii ((pnN v w : Nat) : Int)), (5, ii ((k : Nat) : Int))]) (S' := [ii ((pnN v w : Nat) : Int), ii ((k : Nat) : Int)]) dm_X5_ask_123 rfl rfl rfl rfl ?_
            refine y_2ge (a := ((k : Nat) : Int)) (b := ((pnN v w : Nat) : Int)) (t := 160) (pc' := 128) dm_X5_ask_125 rfl rfl (by omega) (fun hb2 => ?_) (fun hb2 => ?_)
            · refine y_ret (r := none) dm_X5_ask_160 rfl rfl rfl ?_
              exact ⟨rfl, m, N, f, s, l, u, r, rfl, pLp_end hL hnf hmm hk (by first | exact Or.inl (by omega) | exact Or.inr (by omega))⟩
            · refine me1 (pc' := 129) (L' := [(0, .ref o), (1, .ref p), (2, .ref q), (3, ii ar), (4, ii ((pnN v w : Nat) : Int)), (5, ii ((k : Nat) : Int))]) (S' := [.ref o]) dm_X5_ask_128 rfl rfl rfl rfl ?_
              refine me3 (pc' := 132) (S' := [ii f]) dm_X5_ask_129 (g_get (v := ii f) (hl_ne (by omega) (hl_set (hl_lt ho))) rfl rfl (by omega)) rfl rfl rfl ?_
              refine y_1ne (a := f) (t := 160) (pc' := 135) dm_X5_ask_132 rfl rfl (by omega) (fun hb3 => ?_) (fun hb3 => ?_)
              · refine y_ret (r := none) dm_X5_ask_160 rfl rfl rfl ?_
                exact ⟨rfl, m, N, f, s, l, u, r, rfl, pLp_end hL hnf hmm hk (by first | exact Or.inl (by omega) | exact Or.inr (by omega))⟩
              · have he1 : 1 ≤ e := by by_cases z : vk v = 7; exact cv_kid_pos (k := k) hv z (by omega); exact cv_kid_pos (k := k) hw (by omega) (by omega)
                refine me1 (pc' := 136) (L' := [(0, .ref o), (1, .ref p), (2, .ref q), (3, ii ar), (4, ii ((pnN v w : Nat) : Int)), (5, ii ((k : Nat) : Int))]) (S' := [.ref o]) dm_X5_ask_135 rfl rfl rfl rfl ?_
                refine me1 (pc' := 137) (L' := [(0, .ref o), (1, .ref p), (2, .ref q), (3, ii ar), (4, ii ((pnN v w : Nat) : Int)), (5, ii ((k : Nat) : Int))]) (S' := [.ref p, .ref o]) dm_X5_ask_136 rfl rfl rfl rfl ?_
                refine me1 (pc' := 139) (L' := [(0, .ref o), (1, .ref p), (2, .ref q), (3, ii ar), (4, ii ((pnN v w : Nat) : Int)), (5, ii ((k : Nat) : Int))]) (S' := [ii ((k : Nat) : Int), .ref p, .ref o]) dm_X5_ask_137 rfl rfl rfl rfl ?_
                obtain ⟨q1, hq1, hpq1⟩ := c_valueAtP (xt := xt) (d := d - 1) (h := ((h).set o (cO 5 [ii vb, ii f, .ref nq, ii s, ii l, ii ((m : Nat) : Int), ii u, zz r, ro, va, ii nu, ii vu])).set nq (cJ 1000 N)) (k := k) (by omega) (cv_set (nA hA (Or.inl (by omega))) (cv_set (nA hA (Or.inl (by omega))) hv)) (fun z => by omega) he1
                refine x_cp (pc' := 142) (v := .ref q1) (rest := [.ref o]) dm_X5_ask_139 rfl (g_inv (As := [ii ((k : Nat) : Int)]) (S := [.ref o]) (hl_ne (by omega) (hl_ne (by omega) hp)) rfl rfl rfl (by omega)) rfl rfl rfl (hpq1) ?_
                refine me1 (pc' := 143) (L' := [(0, .ref o), (1, .ref p), (2, .ref q), (3, ii ar), (4, ii ((pnN v w : Nat) : Int)), (5, ii ((k : Nat) : Int))]) (S' := [.ref q, .ref q1, .ref o]) dm_X5_ask_142 rfl rfl rfl rfl ?_
                refine me1 (pc' := 145) (L' := [(0, .ref o), (1, .ref p), (2, .ref q), (3, ii ar), (4, ii ((pnN v w : Nat) : Int)), (5, ii ((k : Nat) : Int))]) (S' := [ii ((k : Nat) : Int), .ref q, .ref q1, .ref o]) dm_X5_ask_143 rfl rfl rfl rfl ?_
                obtain ⟨q2, hq2, hpq2⟩ := c_valueAtP (xt := xt) (d := d - 1) (h := ((h).set o (cO 5 [ii vb, ii f, .ref nq, ii s, ii l, ii ((m : Nat) : Int), ii u, zz r, ro, va, ii nu, ii vu])).set nq (cJ 1000 N)) (k := k) (by omega) (cv_set (nA hA (Or.inl (by omega))) (cv_set (nA hA (Or.inl (by omega))) hw)) (fun z => by omega) he1
                refine x_cp (pc' := 148) (v := .ref q2) (rest := [.ref q1, .ref o]) dm_X5_ask_145 rfl (g_inv (As := [ii ((k : Nat) : Int)]) (S := [.ref q1, .ref o]) (hl_ne (by omega) (hl_ne (by omega) hq)) rfl rfl rfl (by omega)) rfl rfl rfl (hpq2) ?_
                refine me1 (pc' := 149) (L' := [(0, .ref o), (1, .ref p), (2, .ref q), (3, ii ar), (4, ii ((pnN v w : Nat) : Int)), (5, ii ((k : Nat) : Int))]) (S' := [ii ar, .ref q2, .ref q1, .ref o]) dm_X5_ask_148 rfl rfl rfl rfl ?_
                refine me0 (pc' := 150) (S' := [ii 1, ii ar, .ref q2, .ref q1, .ref o]) dm_X5_ask_149 rfl rfl rfl rfl ?_
                refine y_iadd (a := ar) (b := 1) dm_X5_ask_150 (pc' := 151) rfl ?_
                have hf0 : f = 0 := by omega
                have hA2 : okA A (((h).set o (cO 5 [ii vb, ii f, .ref nq, ii s, ii l, ii ((m : Nat) : Int), ii u, zz r, ro, va, ii nu, ii vu])).set nq (cJ 1000 N)) := fun x hx => by rw [List.length_set, List.length_set]; exact hA x hx
                have hl2 : 0 ≤ l ∧ l ≤ 500 := by have y := (hL.2.1 hf0).2.1; have z := maxN_le (n := k) (f := fun i => paL e (pat v i) (pat w i)) (b := e + 2) (fun i _ => paL_le _ _ _); omega
                refine x_cn (pc' := 154) (rest := []) dm_X5_ask_151 rfl (g_inv (As := [.ref q1, .ref q2, ii (ar + 1)]) (S := []) (hl_ne (by omega) (hl_set (hl_lt ho))) rfl rfl rfl (by omega)) rfl rfl rfl (ih (by omega) hA2 hq1 hq2 (show (((h).set o (cO 5 [ii vb, ii f, .ref nq, ii s, ii l, ii ((m : Nat) : Int), ii u, zz r, ro, va, ii nu, ii vu])).set nq (cJ 1000 N))[o]? = some (PO vb 0 nq s l ((m : Nat) : Int) u r ro va nu vu) by rw [hf0]; exact hl_ne (by omega) (hl_set (hl_lt ho))) (hl_set (by rw [List.length_set]; exact hl_lt hnq)) hL.2.2.1 hl2 (by omega) (by omega)) ?_
                rintro _ ⟨m1, N1, fq, sq, lq, uq, rq, rfl, hk1⟩
                rw [hl_sw (h := h) (a := nq) (b := o) (by omega)]
                refine y_iinc (pc' := 157) (L' := [(5, ii (((k : Nat) : Int) + 1)), (0, .ref o), (1, .ref p), (2, .ref q), (3, ii ar), (4, ii ((pnN v w : Nat) : Int))]) dm_X5_ask_154 (y_incp (a := ((k : Nat) : Int)) (c := 1) rfl rfl (by decide)) rfl ?_
                refine me2 (pc' := 121) (S' := []) dm_X5_ask_157 rfl rfl rfl ?_
                exact pg_sub (L := [(0, .ref o), (1, .ref p), (2, .ref q), (3, ii ar), (4, ii ((pnN v w : Nat) : Int)), (5, ii (((k + 1) : Nat) : Int))]) rfl rfl rfl (ih121 (pnN v w - (k + 1)) (by omega) (k + 1) fq sq lq m1 uq rq N1 rfl (by omega) (pLp_s hm0 hL hf0 hk1))
        refine pg_cast (h2 := ((h).set o (cO 5 [ii vb, ii 0, .ref nq, ii (sz + 1), ii (max lv (ar + 1)), ii ((m0 : Nat) : Int), ii (vm_ + ((pnN v w : Nat) : Int)), zz rw_, ro, va, ii nu, ii vu])).set nq (cJ 1000 N0)) (hl_self (hl_ne (by omega) hnq)).symm ?_
        exact pg_sub (L := [(0, .ref o), (1, .ref p), (2, .ref q), (3, ii ar), (4, ii ((pnN v w : Nat) : Int)), (5, ii ((0 : Nat) : Int))]) rfl rfl rfl (lp121 _ 0 0 (sz + 1) (max lv (ar + 1)) m0 (vm_ + ((pnN v w : Nat) : Int)) rw_ N0 rfl (Nat.zero_le _) (pLp_0 hm0))
      · refine me1 (pc' := 71) (L' := [(0, .ref o), (1, .ref p), (2, .ref q), (3, ii ar)]) (S' := [.ref p]) dm_X5_ask_70 rfl rfl rfl rfl ?_
        refine me3 (pc' := 74) (S' := [ii (vm v : Int)]) dm_X5_ask_71 (g_get (v := ii (vm v : Int)) hp rfl rfl (by omega)) rfl rfl rfl ?_
        refine me2 (pc' := 81) (S' := [ii (vm v : Int)]) dm_X5_ask_74 rfl rfl rfl ?_
        refine pg_st0 (S' := [ii ((pnN v w : Nat) : Int)]) (congrArg (fun z => ii z :: []) (by rw [pnN_e (by omega)]; first | rw [if_pos (by omega)] | rw [if_neg (by omega)])) ?_
        refine me1 (pc' := 83) (L' := [(4, ii ((pnN v w : Nat) : Int)), (0, .ref o), (1, .ref p), (2, .ref q), (3, ii ar)]) (S' := []) dm_X5_ask_81 rfl rfl rfl rfl ?_
        refine me1 (pc' := 84) (L' := [(4, ii ((pnN v w : Nat) : Int)), (0, .ref o), (1, .ref p), (2, .ref q), (3, ii ar)]) (S' := [.ref o]) dm_X5_ask_83 rfl rfl rfl rfl ?_
        refine me0 (pc' := 85) (S' := [.ref o, .ref o]) dm_X5_ask_84 rfl rfl rfl rfl ?_
        refine me3 (pc' := 88) (S' := [ii sz, .ref o]) dm_X5_ask_85 (g_get (v := ii sz) ho rfl rfl (by omega)) rfl rfl rfl ?_
        refine me0 (pc' := 89) (S' := [ii 1, ii sz, .ref o]) dm_X5_ask_88 rfl rfl rfl rfl ?_
        refine y_iadd (a := sz) (b := 1) dm_X5_ask_89 (pc' := 90) rfl ?_
        refine me3 (pc' := 93) (S' := []) (h1 := (h).set o (cO 5 [ii vb, ii 0, .ref nq, ii (sz + 1), ii lv, ii ((m0 : Nat) : Int), ii vm_, zz rw_, ro, va, ii nu, ii vu])) dm_X5_ask_90 (g_put (fs' := [ii vb, ii 0, .ref nq, ii (sz + 1), ii lv, ii ((m0 : Nat) : Int), ii vm_, zz rw_, ro, va, ii nu, ii vu]) ho rfl rfl rfl (by simp) rfl (by decide) (fun z => by cases z) (by omega)) rfl rfl rfl ?_
        refine me1 (pc' := 94) (L' := [(4, ii ((pnN v w : Nat) : Int)), (0, .ref o), (1, .ref p), (2, .ref q), (3, ii ar)]) (S' := [.ref o]) dm_X5_ask_93 rfl rfl rfl rfl ?_
        refine me1 (pc' := 95) (L' := [(4, ii ((pnN v w : Nat) : Int)), (0, .ref o), (1, .ref p), (2, .ref q), (3, ii ar)]) (S' := [.ref o, .ref o]) dm_X5_ask_94 rfl rfl rfl rfl ?_
        refine me3 (pc' := 98) (S' := [ii lv, .ref o]) dm_X5_ask_95 (g_get (v := ii lv) (hl_set (hl_lt ho)) rfl rfl (by omega)) rfl rfl rfl ?_
        refine me1 (pc' := 99) (L' := [(4, ii ((pnN v w : Nat) : Int)), (0, .ref o), (1, .ref p), (2, .ref q), (3, ii ar)]) (S' := [ii ar, ii lv, .ref o]) dm_X5_ask_98 rfl rfl rfl rfl ?_
        refine me0 (pc' := 100) (S' := [ii 1, ii ar, ii lv, .ref o]) dm_X5_ask_99 rfl rfl rfl rfl ?_
        refine y_iadd (a := ar) (b := 1) dm_X5_ask_100 (pc' := 101) rfl ?_
        refine y_pr (i := .iadd) (pc' := 104) (S' := [ii (max lv (ar + 1)), .ref o]) dm_X5_ask_101 rfl (p_imax (by omega) (by omega) (by omega) (by omega) rfl) (by omega) rfl ?_
        refine me3 (pc' := 107) (S' := []) (h1 := (h).set o (cO 5 [ii vb, ii 0, .ref nq, ii (sz + 1), ii (max lv (ar + 1)), ii ((m0 : Nat) : Int), ii vm_, zz rw_, ro, va, ii nu, ii vu])) dm_X5_ask_104 (g_put (fs' := [ii vb, ii 0, .ref nq, ii (sz + 1), ii (max lv (ar + 1)), ii ((m0 : Nat) : Int), ii vm_, zz rw_, ro, va, ii nu, ii vu]) (hl_set (hl_lt ho)) rfl (by rw [List.set_set]) rfl (by simp) rfl (by decide) (fun z => by cases z) (by omega)) rfl rfl rfl ?_
        refine me1 (pc' := 108) (L' := [(4, ii ((pnN v w : Nat) : Int)), (0, .ref o), (1, .ref p), (2, .ref q), (3, ii ar)]) (S' := [.ref o]) dm_X5_ask_107 rfl rfl rfl rfl ?_
        refine me0 (pc' := 109) (S' := [.ref o, .ref o]) dm_X5_ask_108 rfl rfl rfl rfl ?_
        refine me3 (pc' := 112) (S' := [ii vm_, .ref o]) dm_X5_ask_109 (g_get (v := ii vm_) (hl_set (hl_lt ho)) rfl rfl (by omega)) rfl rfl rfl ?_
        refine me1 (pc' := 114) (L' := [(4, ii ((pnN v w : Nat) : Int)), (0, .ref o), (1, .ref p), (2, .ref q), (3, ii ar)]) (S' := [ii ((pnN v w : Nat) : Int), ii vm_, .ref o]) dm_X5_ask_112 rfl rfl rfl rfl ?_
        refine y_iadd (a := vm_) (b := ((pnN v w : Nat) : Int)) dm_X5_ask_114 (pc' := 115) rfl ?_
        refine me3 (pc' := 118) (S' := []) (h1 := (h).set o (cO 5 [ii vb, ii 0, .ref nq, ii (sz + 1), ii (max lv (ar + 1)), ii ((m0 : Nat) : Int), ii (vm_ + ((pnN v w : Nat) : Int)), zz rw_, ro, va, ii nu, ii vu])) dm_X5_ask_115 (g_put (fs' := [ii vb, ii 0, .ref nq, ii (sz + 1), ii (max lv (ar + 1)), ii ((m0 : Nat) : Int), ii (vm_ + ((pnN v w : Nat) : Int)), zz rw_, ro, va, ii nu, ii vu]) (hl_set (hl_lt ho)) rfl (by rw [List.set_set]) rfl (by simp) rfl (by decide) (fun z => by cases z) (by omega)) rfl rfl rfl ?_
        refine me0 (pc' := 119) (S' := [ii 0]) dm_X5_ask_118 rfl rfl rfl rfl ?_
        refine me1 (pc' := 121) (L' := [(5, ii 0), (4, ii ((pnN v w : Nat) : Int)), (0, .ref o), (1, .ref p), (2, .ref q), (3, ii ar)]) (S' := []) dm_X5_ask_119 rfl rfl rfl rfl ?_
        have lp121 : ∀ (n121 : Nat) (k : Nat) (f : Int) (s : Int) (l : Int) (m : Nat) (u : Int) (r : Bool) (N : Nat → Int64), pnN v w - k = n121 → (k ≤ pnN v w) → (pLp vb e v w sz lv ar vm_ rw_ m0 N0 k f s l m u r N) → pgE xt (d - 1) 5 6 false (Option.none : Option Jvm.ClassFile.FieldType) (mj_dec prog_7_method_3_code) 121 [(0, .ref o), (1, .ref p), (2, .ref q), (3, ii ar), (4, ii ((pnN v w : Nat) : Int)), (5, ii ((k : Nat) : Int))] [] (((h).set o (cO 5 [ii vb, ii f, .ref nq, ii s, ii l, ii ((m : Nat) : Int), ii u, zz r, ro, va, ii nu, ii vu])).set nq (cJ 1000 N)) (fun r_ h' => r_ = none ∧ ∃ (m : Nat) (N : Nat → Int64) (f s l u : Int) (r : Bool), h' = (h.set o (PO vb f nq s l ((m : Nat) : Int) u r ro va nu vu)).set nq (cJ 1000 N) ∧ pAsk vb (e + 1) v w sz lv ar vm_ rw_ m0 N0 f s l m u r N) := by
          intro n121
          induction n121 using Nat.strongRecOn with
          | ind n121 ih121 =>
            intro k f s l m u r N hm121 hk hL
            have hfr : 0 ≤ f ∧ f ≤ 6 := by rw [hL.1]; exact errs_rg (by omega) (fun i => paF_r _ _ _ _) k
            refine me1 (pc' := 123) (L' := [(0, .ref o), (1, .ref p), (2, .ref q), (3, ii ar), (4, ii ((pnN v w : Nat) : Int)), (5, ii ((k : Nat) : Int))]) (S' := [ii ((k : Nat) : Int)]) dm_X5_ask_121 rfl rfl rfl rfl ?_
            refine me1 (pc' := 125) (L' := [(0, .ref o), (1, .ref p), (2, .ref q), (3, ii ar), (4, ii ((pnN v w : Nat) : Int)), (5, ii ((k : Nat) : Int))]) (S' := [ii ((pnN v w : Nat) : Int), ii ((k : Nat) : Int)]) dm_X5_ask_123 rfl rfl rfl rfl ?_
            refine y_2ge (a := ((k : Nat) : Int)) (b := ((pnN v w : Nat) : Int)) (t := 160) (pc' := 128) dm_X5_ask_125 rfl rfl (by omega) (fun hb4 => ?_) (fun hb4 => ?_)
            · refine y_ret (r := none) dm_X5_ask_160 rfl rfl rfl ?_
              exact ⟨rfl, m, N, f, s, l, u, r, rfl, pLp_end hL hnf hmm hk (by first | exact Or.inl (by omega) | exact Or.inr (by omega))⟩
            · refine me1 (pc' := 129) (L' := [(0, .ref o), (1, .ref p), (2, .ref q), (3, ii ar), (4, ii ((pnN v w : Nat) : Int)), (5, ii ((k : Nat) : Int))]) (S' := [.ref o]) dm_X5_ask_128 rfl rfl rfl rfl ?_
              refine me3 (pc' := 132) (S' := [ii f]) dm_X5_ask_129 (g_get (v := ii f) (hl_ne (by omega) (hl_set (hl_lt ho))) rfl rfl (by omega)) rfl rfl rfl ?_
              refine y_1ne (a := f) (t := 160) (pc' := 135) dm_X5_ask_132 rfl rfl (by omega) (fun hb5 => ?_) (fun hb5 => ?_)
              · refine y_ret (r := none) dm_X5_ask_160 rfl rfl rfl ?_
                exact ⟨rfl, m, N, f, s, l, u, r, rfl, pLp_end hL hnf hmm hk (by first | exact Or.inl (by omega) | exact Or.inr (by omega))⟩
              · have he1 : 1 ≤ e := by by_cases z : vk v = 7; exact cv_kid_pos (k := k) hv z (by omega); exact cv_kid_pos (k := k) hw (by omega) (by omega)
                refine me1 (pc' := 136) (L' := [(0, .ref o), (1, .ref p), (2, .ref q), (3, ii ar), (4, ii ((pnN v w : Nat) : Int)), (5, ii ((k : Nat) : Int))]) (S' := [.ref o]) dm_X5_ask_135 rfl rfl rfl rfl ?_
                refine me1 (pc' := 137) (L' := [(0, .ref o), (1, .ref p), (2, .ref q), (3, ii ar), (4, ii ((pnN v w : Nat) : Int)), (5, ii ((k : Nat) : Int))]) (S' := [.ref p, .ref o]) dm_X5_ask_136 rfl rfl rfl rfl ?_
                refine me1 (pc' := 139) (L' := [(0, .ref o), (1, .ref p), (2, .ref q), (3, ii ar), (4, ii ((pnN v w : Nat) : Int)), (5, ii ((k : Nat) : Int))]) (S' := [ii ((k : Nat) : Int), .ref p, .ref o]) dm_X5_ask_137 rfl rfl rfl rfl ?_
                obtain ⟨q1, hq1, hpq1⟩ := c_valueAtP (xt := xt) (d := d - 1) (h := ((h).set o (cO 5 [ii vb, ii f, .ref nq, ii s, ii l, ii ((m : Nat) : Int), ii u, zz r, ro, va, ii nu, ii vu])).set nq (cJ 1000 N)) (k := k) (by omega) (cv_set (nA hA (Or.inl (by omega))) (cv_set (nA hA (Or.inl (by omega))) hv)) (fun z => by omega) he1
                refine x_cp (pc' := 142) (v := .ref q1) (rest := [.ref o]) dm_X5_ask_139 rfl (g_inv (As := [ii ((k : Nat) : Int)]) (S := [.ref o]) (hl_ne (by omega) (hl_ne (by omega) hp)) rfl rfl rfl (by omega)) rfl rfl rfl (hpq1) ?_
                refine me1 (pc' := 143) (L' := [(0, .ref o), (1, .ref p), (2, .ref q), (3, ii ar), (4, ii ((pnN v w : Nat) : Int)), (5, ii ((k : Nat) : Int))]) (S' := [.ref q, .ref q1, .ref o]) dm_X5_ask_142 rfl rfl rfl rfl ?_
                refine me1 (pc' := 145) (L' := [(0, .ref o), (1, .ref p), (2, .ref q), (3, ii ar), (4, ii ((pnN v w : Nat) : Int)), (5, ii ((k : Nat) : Int))]) (S' := [ii ((k : Nat) : Int), .ref q, .ref q1, .ref o]) dm_X5_ask_143 rfl rfl rfl rfl ?_
                obtain ⟨q2, hq2, hpq2⟩ := c_valueAtP (xt := xt) (d := d - 1) (h := ((h).set o (cO 5 [ii vb, ii f, .ref nq, ii s, ii l, ii ((m : Nat) : Int), ii u, zz r, ro, va, ii nu, ii vu])).set nq (cJ 1000 N)) (k := k) (by omega) (cv_set (nA hA (Or.inl (by omega))) (cv_set (nA hA (Or.inl (by omega))) hw)) (fun z => by omega) he1
                refine x_cp (pc' := 148) (v := .ref q2) (rest := [.ref q1, .ref o]) dm_X5_ask_145 rfl (g_inv (As := [ii ((k : Nat) : Int)]) (S := [.ref q1, .ref o]) (hl_ne (by omega) (hl_ne (by omega) hq)) rfl rfl rfl (by omega)) rfl rfl rfl (hpq2) ?_
                refine me1 (pc' := 149) (L' := [(0, .ref o), (1, .ref p), (2, .ref q), (3, ii ar), (4, ii ((pnN v w : Nat) : Int)), (5, ii ((k : Nat) : Int))]) (S' := [ii ar, .ref q2, .ref q1, .ref o]) dm_X5_ask_148 rfl rfl rfl rfl ?_
                refine me0 (pc' := 150) (S' := [ii 1, ii ar, .ref q2, .ref q1, .ref o]) dm_X5_ask_149 rfl rfl rfl rfl ?_
                refine y_iadd (a := ar) (b := 1) dm_X5_ask_150 (pc' := 151) rfl ?_
                have hf0 : f = 0 := by omega
                have hA2 : okA A (((h).set o (cO 5 [ii vb, ii f, .ref nq, ii s, ii l, ii ((m : Nat) : Int), ii u, zz r, ro, va, ii nu, ii vu])).set nq (cJ 1000 N)) := fun x hx => by rw [List.length_set, List.length_set]; exact hA x hx
                have hl2 : 0 ≤ l ∧ l ≤ 500 := by have y := (hL.2.1 hf0).2.1; have z := maxN_le (n := k) (f := fun i => paL e (pat v i) (pat w i)) (b := e + 2) (fun i _ => paL_le _ _ _); omega
                refine x_cn (pc' := 154) (rest := []) dm_X5_ask_151 rfl (g_inv (As := [.ref q1, .ref q2, ii (ar + 1)]) (S := []) (hl_ne (by omega) (hl_set (hl_lt ho))) rfl rfl rfl (by omega)) rfl rfl rfl (ih (by omega) hA2 hq1 hq2 (show (((h).set o (cO 5 [ii vb, ii f, .ref nq, ii s, ii l, ii ((m : Nat) : Int), ii u, zz r, ro, va, ii nu, ii vu])).set nq (cJ 1000 N))[o]? = some (PO vb 0 nq s l ((m : Nat) : Int) u r ro va nu vu) by rw [hf0]; exact hl_ne (by omega) (hl_set (hl_lt ho))) (hl_set (by rw [List.length_set]; exact hl_lt hnq)) hL.2.2.1 hl2 (by omega) (by omega)) ?_
                rintro _ ⟨m1, N1, fq, sq, lq, uq, rq, rfl, hk1⟩
                rw [hl_sw (h := h) (a := nq) (b := o) (by omega)]
                refine y_iinc (pc' := 157) (L' := [(5, ii (((k : Nat) : Int) + 1)), (0, .ref o), (1, .ref p), (2, .ref q), (3, ii ar), (4, ii ((pnN v w : Nat) : Int))]) dm_X5_ask_154 (y_incp (a := ((k : Nat) : Int)) (c := 1) rfl rfl (by decide)) rfl ?_
                refine me2 (pc' := 121) (S' := []) dm_X5_ask_157 rfl rfl rfl ?_
                exact pg_sub (L := [(0, .ref o), (1, .ref p), (2, .ref q), (3, ii ar), (4, ii ((pnN v w : Nat) : Int)), (5, ii (((k + 1) : Nat) : Int))]) rfl rfl rfl (ih121 (pnN v w - (k + 1)) (by omega) (k + 1) fq sq lq m1 uq rq N1 rfl (by omega) (pLp_s hm0 hL hf0 hk1))
        refine pg_cast (h2 := ((h).set o (cO 5 [ii vb, ii 0, .ref nq, ii (sz + 1), ii (max lv (ar + 1)), ii ((m0 : Nat) : Int), ii (vm_ + ((pnN v w : Nat) : Int)), zz rw_, ro, va, ii nu, ii vu])).set nq (cJ 1000 N0)) (hl_self (hl_ne (by omega) hnq)).symm ?_
        exact pg_sub (L := [(0, .ref o), (1, .ref p), (2, .ref q), (3, ii ar), (4, ii ((pnN v w : Nat) : Int)), (5, ii ((0 : Nat) : Int))]) rfl rfl rfl (lp121 _ 0 0 (sz + 1) (max lv (ar + 1)) m0 (vm_ + ((pnN v w : Nat) : Int)) rw_ N0 rfl (Nat.zero_le _) (pLp_0 hm0))
    refine me1 (pc' := 1) (L' := [(0, .ref o), (1, .ref p), (2, .ref q), (3, ii ar)]) (S' := [.ref p]) dm_X5_ask_0 rfl rfl rfl rfl ?_
    refine me3 (pc' := 4) (S' := [ii (vk v : Int)]) dm_X5_ask_1 (g_get (v := ii (vk v : Int)) hp rfl rfl (by omega)) rfl rfl rfl ?_
    refine me0 (pc' := 6) (S' := [ii 7, ii (vk v : Int)]) dm_X5_ask_4 rfl rfl rfl rfl ?_
    refine y_2eq (a := (vk v : Int)) (b := 7) (t := 26) (pc' := 9) dm_X5_ask_6 rfl rfl (by omega) (fun hb6 => ?_) (fun hb6 => ?_)
    · refine me1 (pc' := 27) (L' := [(0, .ref o), (1, .ref p), (2, .ref q), (3, ii ar)]) (S' := [.ref p]) dm_X5_ask_26 rfl rfl rfl rfl ?_
      refine me3 (pc' := 30) (S' := [ii (vk v : Int)]) dm_X5_ask_27 (g_get (v := ii (vk v : Int)) hp rfl rfl (by omega)) rfl rfl rfl ?_
      refine me0 (pc' := 32) (S' := [ii 7, ii (vk v : Int)]) dm_X5_ask_30 rfl rfl rfl rfl ?_
      refine y_2ne (a := (vk v : Int)) (b := 7) (t := 61) (pc' := 35) dm_X5_ask_32 rfl rfl (by omega) (fun hb7 => ?_) (fun hb7 => ?_)
      · exact pg_sub (L := [(0, .ref o), (1, .ref p), (2, .ref q), (3, ii ar)]) rfl rfl rfl (cut61 (fun z => by have z1 := z.1; have z2 := z.2; omega) (by omega))
      · refine me1 (pc' := 36) (L' := [(0, .ref o), (1, .ref p), (2, .ref q), (3, ii ar)]) (S' := [.ref q]) dm_X5_ask_35 rfl rfl rfl rfl ?_
        refine me3 (pc' := 39) (S' := [ii (vk w : Int)]) dm_X5_ask_36 (g_get (v := ii (vk w : Int)) hq rfl rfl (by omega)) rfl rfl rfl ?_
        refine me0 (pc' := 41) (S' := [ii 7, ii (vk w : Int)]) dm_X5_ask_39 rfl rfl rfl rfl ?_
        refine y_2ne (a := (vk w : Int)) (b := 7) (t := 61) (pc' := 44) dm_X5_ask_41 rfl rfl (by omega) (fun hb8 => ?_) (fun hb8 => ?_)
        · exact pg_sub (L := [(0, .ref o), (1, .ref p), (2, .ref q), (3, ii ar)]) rfl rfl rfl (cut61 (fun z => by have z1 := z.1; have z2 := z.2; omega) (by omega))
        · refine me1 (pc' := 45) (L' := [(0, .ref o), (1, .ref p), (2, .ref q), (3, ii ar)]) (S' := [.ref p]) dm_X5_ask_44 rfl rfl rfl rfl ?_
          refine me3 (pc' := 48) (S' := [ii (vm v : Int)]) dm_X5_ask_45 (g_get (v := ii (vm v : Int)) hp rfl rfl (by omega)) rfl rfl rfl ?_
          refine me1 (pc' := 49) (L' := [(0, .ref o), (1, .ref p), (2, .ref q), (3, ii ar)]) (S' := [.ref q, ii (vm v : Int)]) dm_X5_ask_48 rfl rfl rfl rfl ?_
          refine me3 (pc' := 52) (S' := [ii (vm w : Int), ii (vm v : Int)]) dm_X5_ask_49 (g_get (v := ii (vm w : Int)) hq rfl rfl (by omega)) rfl rfl rfl ?_
          refine y_2eq (a := (vm v : Int)) (b := (vm w : Int)) (t := 61) (pc' := 55) dm_X5_ask_52 rfl rfl (by omega) (fun hb9 => ?_) (fun hb9 => ?_)
          · exact pg_sub (L := [(0, .ref o), (1, .ref p), (2, .ref q), (3, ii ar)]) rfl rfl rfl (cut61 (fun z => by have z1 := z.1; have z2 := z.2; omega) (by omega))
          · refine me1 (pc' := 56) (L' := [(0, .ref o), (1, .ref p), (2, .ref q), (3, ii ar)]) (S' := [.ref o]) dm_X5_ask_55 rfl rfl rfl rfl ?_
            refine me0 (pc' := 57) (S' := [ii 4, .ref o]) dm_X5_ask_56 rfl rfl rfl rfl ?_
            refine me3 (pc' := 60) (S' := []) (h1 := (h).set o (cO 5 [ii vb, ii 4, .ref nq, ii sz, ii lv, ii ((m0 : Nat) : Int), ii vm_, zz rw_, ro, va, ii nu, ii vu])) dm_X5_ask_57 (g_put (fs' := [ii vb, ii 4, .ref nq, ii sz, ii lv, ii ((m0 : Nat) : Int), ii vm_, zz rw_, ro, va, ii nu, ii vu]) ho rfl rfl rfl (by simp) rfl (by decide) (fun z => by cases z) (by omega)) rfl rfl rfl ?_
            refine y_ret (r := none) dm_X5_ask_60 rfl rfl rfl ?_
            refine ⟨rfl, m0, N0, 4, sz, lv, vm_, rw_, (hl_self (hl_ne (by omega) hnq)).symm, ?_, fun hz => absurd hz (by decide), hm0, fun _ _ => rfl⟩
            rw [paF_s, if_neg (fun z => by have := z.1; omega), if_pos ⟨by omega, by omega, by omega⟩]
    · refine me1 (pc' := 10) (L' := [(0, .ref o), (1, .ref p), (2, .ref q), (3, ii ar)]) (S' := [.ref q]) dm_X5_ask_9 rfl rfl rfl rfl ?_
      refine me3 (pc' := 13) (S' := [ii (vk w : Int)]) dm_X5_ask_10 (g_get (v := ii (vk w : Int)) hq rfl rfl (by omega)) rfl rfl rfl ?_
      refine me0 (pc' := 15) (S' := [ii 7, ii (vk w : Int)]) dm_X5_ask_13 rfl rfl rfl rfl ?_
      refine y_2eq (a := (vk w : Int)) (b := 7) (t := 26) (pc' := 18) dm_X5_ask_15 rfl rfl (by omega) (fun hb10 => ?_) (fun hb10 => ?_)
      · refine me1 (pc' := 27) (L' := [(0, .ref o), (1, .ref p), (2, .ref q), (3, ii ar)]) (S' := [.ref p]) dm_X5_ask_26 rfl rfl rfl rfl ?_
        refine me3 (pc' := 30) (S' := [ii (vk v : Int)]) dm_X5_ask_27 (g_get (v := ii (vk v : Int)) hp rfl rfl (by omega)) rfl rfl rfl ?_
        refine me0 (pc' := 32) (S' := [ii 7, ii (vk v : Int)]) dm_X5_ask_30 rfl rfl rfl rfl ?_
        refine y_2ne (a := (vk v : Int)) (b := 7) (t := 61) (pc' := 35) dm_X5_ask_32 rfl rfl (by omega) (fun hb11 => ?_) (fun hb11 => ?_)
        · exact pg_sub (L := [(0, .ref o), (1, .ref p), (2, .ref q), (3, ii ar)]) rfl rfl rfl (cut61 (fun z => by have z1 := z.1; have z2 := z.2; omega) (by omega))
        · refine me1 (pc' := 36) (L' := [(0, .ref o), (1, .ref p), (2, .ref q), (3, ii ar)]) (S' := [.ref q]) dm_X5_ask_35 rfl rfl rfl rfl ?_
          refine me3 (pc' := 39) (S' := [ii (vk w : Int)]) dm_X5_ask_36 (g_get (v := ii (vk w : Int)) hq rfl rfl (by omega)) rfl rfl rfl ?_
          refine me0 (pc' := 41) (S' := [ii 7, ii (vk w : Int)]) dm_X5_ask_39 rfl rfl rfl rfl ?_
          refine y_2ne (a := (vk w : Int)) (b := 7) (t := 61) (pc' := 44) dm_X5_ask_41 rfl rfl (by omega) (fun hb12 => ?_) (fun hb12 => ?_)
          · exact pg_sub (L := [(0, .ref o), (1, .ref p), (2, .ref q), (3, ii ar)]) rfl rfl rfl (cut61 (fun z => by have z1 := z.1; have z2 := z.2; omega) (by omega))
          · refine me1 (pc' := 45) (L' := [(0, .ref o), (1, .ref p), (2, .ref q), (3, ii ar)]) (S' := [.ref p]) dm_X5_ask_44 rfl rfl rfl rfl ?_
            refine me3 (pc' := 48) (S' := [ii (vm v : Int)]) dm_X5_ask_45 (g_get (v := ii (vm v : Int)) hp rfl rfl (by omega)) rfl rfl rfl ?_
            refine me1 (pc' := 49) (L' := [(0, .ref o), (1, .ref p), (2, .ref q), (3, ii ar)]) (S' := [.ref q, ii (vm v : Int)]) dm_X5_ask_48 rfl rfl rfl rfl ?_
            refine me3 (pc' := 52) (S' := [ii (vm w : Int), ii (vm v : Int)]) dm_X5_ask_49 (g_get (v := ii (vm w : Int)) hq rfl rfl (by omega)) rfl rfl rfl ?_
            refine y_2eq (a := (vm v : Int)) (b := (vm w : Int)) (t := 61) (pc' := 55) dm_X5_ask_52 rfl rfl (by omega) (fun hb13 => ?_) (fun hb13 => ?_)
            · exact pg_sub (L := [(0, .ref o), (1, .ref p), (2, .ref q), (3, ii ar)]) rfl rfl rfl (cut61 (fun z => by have z1 := z.1; have z2 := z.2; omega) (by omega))
            · refine me1 (pc' := 56) (L' := [(0, .ref o), (1, .ref p), (2, .ref q), (3, ii ar)]) (S' := [.ref o]) dm_X5_ask_55 rfl rfl rfl rfl ?_
              refine me0 (pc' := 57) (S' := [ii 4, .ref o]) dm_X5_ask_56 rfl rfl rfl rfl ?_
              refine me3 (pc' := 60) (S' := []) (h1 := (h).set o (cO 5 [ii vb, ii 4, .ref nq, ii sz, ii lv, ii ((m0 : Nat) : Int), ii vm_, zz rw_, ro, va, ii nu, ii vu])) dm_X5_ask_57 (g_put (fs' := [ii vb, ii 4, .ref nq, ii sz, ii lv, ii ((m0 : Nat) : Int), ii vm_, zz rw_, ro, va, ii nu, ii vu]) ho rfl rfl rfl (by simp) rfl (by decide) (fun z => by cases z) (by omega)) rfl rfl rfl ?_
              refine y_ret (r := none) dm_X5_ask_60 rfl rfl rfl ?_
              refine ⟨rfl, m0, N0, 4, sz, lv, vm_, rw_, (hl_self (hl_ne (by omega) hnq)).symm, ?_, fun hz => absurd hz (by decide), hm0, fun _ _ => rfl⟩
              rw [paF_s, if_neg (fun z => by have := z.1; omega), if_pos ⟨by omega, by omega, by omega⟩]
      · refine me1 (pc' := 19) (L' := [(0, .ref o), (1, .ref p), (2, .ref q), (3, ii ar)]) (S' := [.ref o]) dm_X5_ask_18 rfl rfl rfl rfl ?_
        refine me1 (pc' := 20) (L' := [(0, .ref o), (1, .ref p), (2, .ref q), (3, ii ar)]) (S' := [.ref p, .ref o]) dm_X5_ask_19 rfl rfl rfl rfl ?_
        refine me1 (pc' := 21) (L' := [(0, .ref o), (1, .ref p), (2, .ref q), (3, ii ar)]) (S' := [.ref q, .ref p, .ref o]) dm_X5_ask_20 rfl rfl rfl rfl ?_
        refine me1 (pc' := 22) (L' := [(0, .ref o), (1, .ref p), (2, .ref q), (3, ii ar)]) (S' := [ii ar, .ref q, .ref p, .ref o]) dm_X5_ask_21 rfl rfl rfl rfl ?_
        refine x_cn (pc' := 25) (rest := []) dm_X5_ask_22 rfl (g_inv (As := [.ref p, .ref q, ii ar]) (S := []) ho rfl rfl rfl (by omega)) rfl rfl rfl (p_askFlat hx1 (by omega) hA hv hw hoq ho hnq hm0 hvb (by omega) (by omega)) ?_
        rintro _ ⟨m, N, rfl, hm1, hN⟩
        refine y_ret (r := none) dm_X5_ask_25 rfl rfl rfl ?_
        refine ⟨rfl, m, N, _, _, _, _, _, rfl, ?_, fun hz => ?_, hm1, hN.2⟩
        · rw [paF_s, if_pos (show pflat v w from ⟨by omega, by omega⟩)]
        · have hpf : pflat v w := ⟨by omega, by omega⟩
          obtain ⟨y1, y2⟩ := hN.1 hz
          rw [paS_s, paL_s, paC_s, paM_s, paR_s, paN_s, if_pos hpf, if_pos hpf, if_pos hpf, if_pos hpf, if_pos hpf, if_pos hpf]
          exact ⟨rfl, rfl, y1, by show vm_ = vm_ + 0; omega, rfl, y2⟩
