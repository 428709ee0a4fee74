/-! the reference reads a line -/
/-- what reading a line changes -/
def rlF (s t : RS) : Prop := rext s t ∧ s.1 50 ≤ t.1 50 ∧ (∀ k, ¬ (k = 3 ∨ k = 4 ∨ (34 ≤ k ∧ k ≤ 40) ∨ (50 ≤ k ∧ k ≤ 57)) → t.1 k = s.1 k) ∧ (∀ k, k ≠ 41 → k ≠ 42 → k ≠ 56 → t.2.1 k = s.2.1 k) ∧ (∀ k, ¬ (k = 1 ∨ k = 2 ∨ (43 ≤ k ∧ k ≤ 48)) → t.2.2.1 k = s.2.2.1 k) ∧ (∀ k, k ≠ 0 → k ≠ 49 → t.2.2.2 k = s.2.2.2 k) ∧ (∀ k x : Nat, 43 ≤ k → k ≤ 48 → (x : Int) < s.1 50 → t.2.2.1 k x = s.2.2.1 k x) ∧ (∀ x : Nat, (x : Int) < s.1 50 → t.2.2.2 49 x = s.2.2.2 49 x)
theorem rlF_tr {s t u : RS} (a : rlF s t) (b : rlF t u) : rlF s u := by
  obtain ⟨a1, a2, a3, a4, a5, a6, a7, a8⟩ := a
  obtain ⟨b1, b2, b3, b4, b5, b6, b7, b8⟩ := b
  exact ⟨rext_tr a1 b1, Int.le_trans a2 b2, fun k h => (b3 k h).trans (a3 k h), fun k h1 h2 h3 => (b4 k h1 h2 h3).trans (a4 k h1 h2 h3), fun k h => (b5 k h).trans (a5 k h), fun k h1 h2 => (b6 k h1 h2).trans (a6 k h1 h2), fun k x h1 h2 h3 => (b7 k x h1 h2 (Int.lt_of_lt_of_le h3 a2)).trans (a7 k x h1 h2 h3), fun x h => (b8 x (Int.lt_of_lt_of_le h a2)).trans (a8 x h)⟩
theorem rlF_d {s t : RS} (h : rdR s t) : rlF s t := by
  obtain ⟨a1, a2, a3, a4, a5, a6, a7, a8⟩ := h
  exact ⟨a1, a2, fun k h => a3 k (by omega), fun k h1 _ _ => a4 k h1, a5, a6, a7, a8⟩
theorem rlF_i {s t : RS} (h0 : t.2.2 = s.2.2) (h1 : ∀ k, ¬ ((34 ≤ k ∧ k ≤ 40) ∨ (51 ≤ k ∧ k ≤ 57)) → t.1 k = s.1 k) (h2 : ∀ k, k ≠ 41 → k ≠ 42 → k ≠ 56 → t.2.1 k = s.2.1 k) : rlF s t := by
  have e3 := h1 3 (by decide)
  have e4 := h1 4 (by decide)
  have e5 := h1 50 (by decide)
  exact ⟨⟨by omega, by omega, fun _ _ _ => by rw [h0]; exact ⟨rfl, rfl⟩, fun _ _ => by rw [h0]⟩, by omega, fun k hk => h1 k (by omega), h2, fun _ _ => by rw [h0], fun _ _ _ => by rw [h0], fun _ _ _ _ _ => by rw [h0], fun _ _ => by rw [h0]⟩
theorem rlF_b {s t : RS} (h : rbF s t) : rlF s t := rlF_i h.1 (fun k hk => h.2.1 k (by omega)) (fun k h1 h2 _ => h.2.2 k h1 h2)
/-- a word of the line is set -/
def fiS (t : RS) (k : Nat) (x : Int) : RS := (va_up t.1 k x, t.2.1, t.2.2.1, t.2.2.2)
def flS (t : RS) (k : Nat) (x : Int64) : RS := (t.1, va_up t.2.1 k x, t.2.2.1, t.2.2.2)
theorem rlF_fi {t : RS} {k : Nat} {x : Int} (hk : 53 ≤ k ∧ k ≤ 57) : rlF t (fiS t k x) := rlF_i rfl (fun j hj => up_ne _ _ (by omega)) (fun _ _ _ _ => rfl)
theorem rlF_fl {t : RS} {k : Nat} {x : Int64} (hk : k = 42 ∨ k = 56) : rlF t (flS t k x) := rlF_i rfl (fun _ _ => rfl) (fun j h1 h2 h3 => up_ne _ _ (by omega))
section rls
variable {bf : Nat → Int} {ln n m hi j k : Nat} {F : Nat → Int → Bool} {t : RS} {T : Nat → Tok}
theorem fi_k {x : Int} {q : Nat} (h : q ≠ k) : (fiS t k x).1 q = t.1 q := by show va_up t.1 k x q = _; rw [up_ne _ _ h]
theorem fi_at {x : Int} : (fiS t k x).1 k = x := by show va_up t.1 k x k = x; rw [up_eq]
theorem flS_at {x : Int64} : (flS t k x).2.1 k = x := by show va_up t.2.1 k x k = x; rw [up_eq]
theorem flS_k {x : Int64} {q : Nat} (h : q ≠ k) : (flS t k x).2.1 q = t.2.1 q := by show va_up t.2.1 k x q = _; rw [up_ne _ _ h]
theorem RD_fi {x : Int} (hk : 53 ≤ k) (h : RD bf ln F n m hi t j) : RD bf ln F n m hi (fiS t k x) j := by
  obtain ⟨r1, r2, r3, r4⟩ := h
  have e : ∀ q, q ≤ 52 → (fiS t k x).1 q = t.1 q := fun q hq => fi_k (by omega)
  refine ⟨?_, ?_, ?_, fun q a b => FNp_k rfl rfl (r4 q a b)⟩
  · unfold rtI rtP rtQ acQ at r1 ⊢
    rw [e 35 (by decide), e 36 (by decide), e 37 (by decide), e 38 (by decide), e 39 (by decide), e 40 (by decide)]
    exact r1
  · unfold tpR at r2 ⊢
    rw [e 34 (by decide)]
    exact r2
  · rw [e 23 (by decide), e 24 (by decide)]
    exact r3
theorem RD_fl56 {x : Int64} (h : RD bf ln F n m hi t j) : RD bf ln F n m hi (flS t 56 x) j := by
  obtain ⟨r1, r2, r3, r4⟩ := h
  refine ⟨?_, r2, r3, fun q a b => FNp_k rfl (flS_k (by decide)) (r4 q a b)⟩
  unfold rtI rtP rtQ acQ at r1 ⊢
  rw [show (flS t 56 x).2.1 41 = t.2.1 41 from flS_k (by decide)]
  exact r1
theorem RD_fl42 {x : Int64} {hi2 : Nat} (h : RD bf ln F n m hi t j) (hF : ∀ q, j < q → q ≤ hi2 → FNp bf ln (F q) (flS t 42 x) m) : RD bf ln F n m hi2 (flS t 42 x) j := by
  obtain ⟨r1, r2, r3, r4⟩ := h
  refine ⟨?_, r2, r3, hF⟩
  unfold rtI rtP rtQ acQ at r1 ⊢
  rw [show (flS t 42 x).2.1 41 = t.2.1 41 from flS_k (by decide)]
  exact r1
theorem RM_fi {x : Int} {i : Nat} (hk : 53 ≤ k) (h : RM T ln t i) : RM T ln (fiS t k x) i := by
  have e : ∀ q, q ≤ 52 → (fiS t k x).1 q = t.1 q := fun q hq => fi_k (by omega)
  unfold RM at h ⊢
  rw [e 3 (by decide), e 4 (by decide), e 50 (by decide)]
  exact h
theorem ndK_fi {x : Int} {B : Nat} (hk : 53 ≤ k) : ndK t (fiS t k x) B := ⟨fun _ _ _ _ _ => rfl, fun _ _ => rfl, ⟨by rw [fi_k (by omega)]; exact Int.le_refl _, by rw [fi_k (by omega)]; exact Int.le_refl _, fun _ _ _ => ⟨rfl, rfl⟩, fun _ _ => rfl⟩⟩
end rls
/-- the names x and y -/
theorem own_x : nmR 24 120 := ⟨fun _ => 120, 0, 1, Nat.le_refl _, by decide, fun k _ => by show isLtI (120 : Int); decide, rfl, rfl⟩
theorem own_y : nmR 25 121 := ⟨fun _ => 121, 0, 1, Nat.le_refl _, by decide, fun k _ => by show isLtI (121 : Int); decide, rfl, rfl⟩
theorem nm_own {bf : Nat → Int} {ln i : Nat} {F : Nat → Int → Bool} (h : tqS (tkI bf ln F i) = 3 ∨ tqS (tkI bf ln F i) = 4) : (97 ≤ tqR (tkI bf ln F i) ∧ tqR (tkI bf ln F i) < 9223372036854775808) ∧ (tqD (tkI bf ln F i) = 24 ↔ tqR (tkI bf ln F i) = 120) ∧ (tqD (tkI bf ln F i) = 25 ↔ tqR (tkI bf ln F i) = 121) := by
  have a := tkI_nm h
  refine ⟨?_, nmR_iff a own_x, nmR_iff a own_y⟩
  obtain ⟨f, q, k, h1, h2, h3, -, h5⟩ := a
  rw [h5]
  exact rk_r8 h1 h2 h3
theorem liS_na {T : Nat → Tok} : ((tqS (T 0) = 3 ∨ tqS (T 0) = 4) ∧ isMk T 1 58) ↔ (liS T = 1 ∨ liS T = 2) := by
  constructor
  · intro h
    unfold liS
    rw [if_pos h.1, if_pos h.2]
    split <;> omega
  · intro h
    have hn := liS_nm (T := T) (by omega)
    refine ⟨hn, Classical.byContradiction fun z => ?_⟩
    unfold liS at h
    rw [if_pos hn, if_neg z] at h
    split at h <;> omega
theorem liS_am {T : Nat → Tok} (h1 : ¬ (liS T = 1 ∨ liS T = 2)) : ((tqS (T 0) = 3 ∨ tqS (T 0) = 4) ∧ isAm T = true) ↔ liS T = 3 := by
  constructor
  · intro h
    have hn : ¬ isMk T 1 58 := fun z => h1 (liS_na.mp ⟨h.1, z⟩)
    unfold liS
    rw [if_pos h.1, if_neg hn, if_pos h.2]
  · intro h
    have hn := liS_nm (T := T) (by omega)
    refine ⟨hn, Classical.byContradiction fun z => ?_⟩
    have hm : ¬ isMk T 1 58 := fun y => h1 (liS_na.mp ⟨hn, y⟩)
    unfold liS at h
    rw [if_pos hn, if_neg hm, if_neg z] at h
    omega
theorem liS_n2 {T : Nat → Tok} (h : liS T = 1) : ¬ isMk T 2 123 := fun z => by
  have hn := liS_na.mpr (Or.inl h)
  unfold liS at h
  rw [if_pos hn.1, if_pos hn.2, if_pos z] at h
  omega
/-- what reading a line leaves -/
def RRL (pre post : mj_H) (ln : Nat) (T : Nat → Tok) (s : RS) (h' : mj_H) : Prop := ∃ t, h' = rS pre post t ∧ rlF s t ∧ t.1 4 ≤ s.1 4 + (ln : Int) ∧ t.1 3 ≤ s.1 3 + (ln : Int) ∧ t.1 50 ≤ s.1 50 + 2 * (ln : Int) ∧ (match liR T with
  | .inl p => t.1 52 = (p : Int)
  | .inr a => 2 * t.1 4 ≤ 2 * s.1 4 + (ln : Int) + 1 ∧ t.1 52 = -1 ∧ t.1 53 = ((liS T : Nat) : Int) ∧ (liS T ≠ 0 → t.2.1 56 = Int64.ofInt (tqR (T 0))) ∧ ∃ rt B : Nat, t.1 54 = (rt : Int) ∧ t.1 50 = (B : Int) ∧ s.1 50 ≤ (rt : Int) ∧ rt < B ∧ rR t T fuR 0 (if liS T = 2 then 1 else 0) a B rt (-1) ∧ (liS T = 3 → t.1 57 = (tqP (T 1) : Int) ∧ ∃ sp : Nat, t.1 55 = (sp : Int) ∧ sp < B ∧ rR t T fuR 0 1 3 B sp (-1)))
theorem RRL_e {pre post : mj_H} {ln p : Nat} {T : Nat → Tok} {s t : RS} (e : liR T = .inl p) (h1 : rlF s t) (h2 : t.1 4 ≤ s.1 4 + (ln : Int)) (h3 : t.1 3 ≤ s.1 3 + (ln : Int)) (h4 : t.1 50 ≤ s.1 50 + 2 * (ln : Int)) (h5 : t.1 52 = (p : Int)) : RRL pre post ln T s (rS pre post t) := by
  refine ⟨t, rfl, h1, h2, h3, h4, ?_⟩
  rw [e]
  exact h5
theorem RRL_v {pre post : mj_H} {ln a o rt B : Nat} {T : Nat → Tok} {s t : RS} (e : liR T = .inr a) (h1 : rlF s t) (h2 : t.1 4 ≤ s.1 4 + (ln : Int)) (h3 : t.1 3 ≤ s.1 3 + (ln : Int)) (h4 : t.1 50 ≤ s.1 50 + 2 * (ln : Int)) (h5 : t.1 52 = -1) (h6 : t.1 53 = ((liS T : Nat) : Int)) (h7 : liS T ≠ 0 → t.2.1 56 = Int64.ofInt (tqR (T 0))) (h8 : t.1 54 = (rt : Int)) (h9 : t.1 50 = (B : Int)) (h10 : s.1 50 ≤ (rt : Int)) (h11 : rt < B) (ho : (if liS T = 2 then 1 else 0) = o) (h12 : rR t T fuR 0 o a B rt (-1)) (h13 : liS T = 3 → t.1 57 = (tqP (T 1) : Int) ∧ ∃ sp : Nat, t.1 55 = (sp : Int) ∧ sp < B ∧ rR t T fuR 0 1 3 B sp (-1)) (h14 : 2 * t.1 4 ≤ 2 * s.1 4 + (ln : Int) + 1) : RRL pre post ln T s (rS pre post t) := by
  refine ⟨t, rfl, h1, h2, h3, h4, ?_⟩
  rw [e]
  exact ⟨h14, h5, h6, h7, rt, B, h8, h9, h10, h11, by rw [ho]; exact h12, h13⟩
theorem TN_fi {bf : Nat → Int} {ln n m k : Nat} {t : RS} {x : Int} (hk : 53 ≤ k) (h : TN bf ln n m t) : TN bf ln n m (fiS t k x) := by
  have e : ∀ q, q ≤ 52 → (fiS t k x).1 q = t.1 q := fun q hq => fi_k (by omega)
  unfold TN at h ⊢
  rw [e 23 (by decide), e 24 (by decide)]
  exact h
theorem FN_b {bf : Nat → Int} {ln m : Nat} {fn : Int → Bool} {s t : RS} (h : t.2.2.2 = s.2.2.2) (hF : FNp bf ln fn (beS s) m) : FNp bf ln fn (beS t) m := FNp_k (s := beS s) (by show t.2.2.2 20 = s.2.2.2 20; rw [h]) rfl hF
theorem RM_eq {T : Nat → Tok} {ln i j : Nat} {s t : RS} (h : RM T ln s i) (h3 : t.1 3 = s.1 3) (h4 : t.1 4 = s.1 4) (h5 : t.1 50 = s.1 50) (hj : tqP (T i) ≤ tqP (T j)) : RM T ln t j := by
  obtain ⟨a1, a2, a3, a4, a5, a6⟩ := h
  exact ⟨by omega, by omega, by omega, by omega, by omega, by omega⟩
/-- telling is set -/
def teS (s : RS) (x : Int64) : RS := (s.1, va_up s.2.1 42 x, s.2.2.1, s.2.2.2)
set_option maxRecDepth 20000 in
theorem pm_X12_read : mj_mmof pg_ms 203 = some ((⟨"ArrayCalculatorModel", "read", "(I)V"⟩, prog_14_method_92_code, 4, (Option.none : Option Jvm.ClassFile.FieldType)), 12, false, mj_dec prog_14_method_92_code) := rfl
theorem dm_X12_read_0 : mj_dec prog_14_method_92_code 0 = some (.aload_n 0, 1) := by decide +kernel
theorem dm_X12_read_1 : mj_dec prog_14_method_92_code 1 = some (.iload_n 1, 1) := by decide +kernel
theorem dm_X12_read_2 : mj_dec prog_14_method_92_code 2 = some (.invokevirtual 475, 3) := by decide +kernel
theorem dm_X12_read_5 : mj_dec prog_14_method_92_code 5 = some (.aload_n 0, 1) := by decide +kernel
theorem dm_X12_read_6 : mj_dec prog_14_method_92_code 6 = some (.iconst 0, 1) := by decide +kernel
theorem dm_X12_read_7 : mj_dec prog_14_method_92_code 7 = some (.putfield 478, 3) := by decide +kernel
theorem dm_X12_read_10 : mj_dec prog_14_method_92_code 10 = some (.aload_n 0, 1) := by decide +kernel
theorem dm_X12_read_11 : mj_dec prog_14_method_92_code 11 = some (.iload_n 1, 1) := by decide +kernel
theorem dm_X12_read_12 : mj_dec prog_14_method_92_code 12 = some (.invokevirtual 481, 3) := by decide +kernel
theorem dm_X12_read_15 : mj_dec prog_14_method_92_code 15 = some (.istore_n 2, 1) := by decide +kernel
theorem dm_X12_read_16 : mj_dec prog_14_method_92_code 16 = some (.iload_n 2, 1) := by decide +kernel
theorem dm_X12_read_17 : mj_dec prog_14_method_92_code 17 = some (.ifCond .ne 15, 3) := by decide +kernel
theorem dm_X12_read_20 : mj_dec prog_14_method_92_code 20 = some (.aload_n 0, 1) := by decide +kernel
theorem dm_X12_read_21 : mj_dec prog_14_method_92_code 21 = some (.iload_n 1, 1) := by decide +kernel
theorem dm_X12_read_22 : mj_dec prog_14_method_92_code 22 = some (.invokevirtual 484, 3) := by decide +kernel
theorem dm_X12_read_25 : mj_dec prog_14_method_92_code 25 = some (.ifCond .eq 7, 3) := by decide +kernel
theorem dm_X12_read_28 : mj_dec prog_14_method_92_code 28 = some (.iconst 1, 1) := by decide +kernel
theorem dm_X12_read_29 : mj_dec prog_14_method_92_code 29 = some (.goto 4, 3) := by decide +kernel
theorem dm_X12_read_32 : mj_dec prog_14_method_92_code 32 = some (.iconst 0, 1) := by decide +kernel
theorem dm_X12_read_33 : mj_dec prog_14_method_92_code 33 = some (.istore_n 3, 1) := by decide +kernel
theorem dm_X12_read_34 : mj_dec prog_14_method_92_code 34 = some (.iload_n 2, 1) := by decide +kernel
theorem dm_X12_read_35 : mj_dec prog_14_method_92_code 35 = some (.ifCond .ne 7, 3) := by decide +kernel
theorem dm_X12_read_38 : mj_dec prog_14_method_92_code 38 = some (.iload_n 3, 1) := by decide +kernel
theorem dm_X12_read_39 : mj_dec prog_14_method_92_code 39 = some (.ifCond .eq 55, 3) := by decide +kernel
theorem dm_X12_read_42 : mj_dec prog_14_method_92_code 42 = some (.aload_n 0, 1) := by decide +kernel
theorem dm_X12_read_43 : mj_dec prog_14_method_92_code 43 = some (.aload_n 0, 1) := by decide +kernel
theorem dm_X12_read_44 : mj_dec prog_14_method_92_code 44 = some (.getfield 417, 3) := by decide +kernel
theorem dm_X12_read_47 : mj_dec prog_14_method_92_code 47 = some (.putfield 487, 3) := by decide +kernel
theorem dm_X12_read_50 : mj_dec prog_14_method_92_code 50 = some (.aload_n 0, 1) := by decide +kernel
theorem dm_X12_read_51 : mj_dec prog_14_method_92_code 51 = some (.getfield 487, 3) := by decide +kernel
theorem dm_X12_read_54 : mj_dec prog_14_method_92_code 54 = some (.ldc2_w 239, 3) := by decide +kernel
theorem dm_X12_read_57 : mj_dec prog_14_method_92_code 57 = some (.lcmp, 1) := by decide +kernel
theorem dm_X12_read_58 : mj_dec prog_14_method_92_code 58 = some (.ifCond .eq 26, 3) := by decide +kernel
theorem dm_X12_read_61 : mj_dec prog_14_method_92_code 61 = some (.aload_n 0, 1) := by decide +kernel
theorem dm_X12_read_62 : mj_dec prog_14_method_92_code 62 = some (.getfield 487, 3) := by decide +kernel
theorem dm_X12_read_65 : mj_dec prog_14_method_92_code 65 = some (.ldc2_w 490, 3) := by decide +kernel
theorem dm_X12_read_68 : mj_dec prog_14_method_92_code 68 = some (.lcmp, 1) := by decide +kernel
theorem dm_X12_read_69 : mj_dec prog_14_method_92_code 69 = some (.ifCond .eq 15, 3) := by decide +kernel
theorem dm_X12_read_72 : mj_dec prog_14_method_92_code 72 = some (.iload_n 3, 1) := by decide +kernel
theorem dm_X12_read_73 : mj_dec prog_14_method_92_code 73 = some (.ifCond .eq 17, 3) := by decide +kernel
theorem dm_X12_read_76 : mj_dec prog_14_method_92_code 76 = some (.aload_n 0, 1) := by decide +kernel
theorem dm_X12_read_77 : mj_dec prog_14_method_92_code 77 = some (.getfield 380, 3) := by decide +kernel
theorem dm_X12_read_80 : mj_dec prog_14_method_92_code 80 = some (.iconst 4, 1) := by decide +kernel
theorem dm_X12_read_81 : mj_dec prog_14_method_92_code 81 = some (.if_icmp .ne 9, 3) := by decide +kernel
theorem dm_X12_read_84 : mj_dec prog_14_method_92_code 84 = some (.aload_n 0, 1) := by decide +kernel
theorem dm_X12_read_85 : mj_dec prog_14_method_92_code 85 = some (.invokevirtual 433, 3) := by decide +kernel
theorem dm_X12_read_88 : mj_dec prog_14_method_92_code 88 = some (.pop, 1) := by decide +kernel
theorem dm_X12_read_89 : mj_dec prog_14_method_92_code 89 = some (.return_, 1) := by decide +kernel
theorem dm_X12_read_90 : mj_dec prog_14_method_92_code 90 = some (.aload_n 0, 1) := by decide +kernel
theorem dm_X12_read_91 : mj_dec prog_14_method_92_code 91 = some (.invokevirtual 437, 3) := by decide +kernel
theorem dm_X12_read_94 : mj_dec prog_14_method_92_code 94 = some (.iload_n 2, 1) := by decide +kernel
theorem dm_X12_read_95 : mj_dec prog_14_method_92_code 95 = some (.ifCond .eq 66, 3) := by decide +kernel
theorem dm_X12_read_98 : mj_dec prog_14_method_92_code 98 = some (.aload_n 0, 1) := by decide +kernel
theorem dm_X12_read_99 : mj_dec prog_14_method_92_code 99 = some (.invokevirtual 437, 3) := by decide +kernel
theorem dm_X12_read_102 : mj_dec prog_14_method_92_code 102 = some (.aload_n 0, 1) := by decide +kernel
theorem dm_X12_read_103 : mj_dec prog_14_method_92_code 103 = some (.bipush 123, 2) := by decide +kernel
theorem dm_X12_read_105 : mj_dec prog_14_method_92_code 105 = some (.invokevirtual 440, 3) := by decide +kernel
theorem dm_X12_read_108 : mj_dec prog_14_method_92_code 108 = some (.ifCond .eq 37, 3) := by decide +kernel
theorem dm_X12_read_111 : mj_dec prog_14_method_92_code 111 = some (.aload_n 0, 1) := by decide +kernel
theorem dm_X12_read_112 : mj_dec prog_14_method_92_code 112 = some (.iconst 2, 1) := by decide +kernel
theorem dm_X12_read_113 : mj_dec prog_14_method_92_code 113 = some (.putfield 478, 3) := by decide +kernel
theorem dm_X12_read_116 : mj_dec prog_14_method_92_code 116 = some (.aload_n 0, 1) := by decide +kernel
theorem dm_X12_read_117 : mj_dec prog_14_method_92_code 117 = some (.aload_n 0, 1) := by decide +kernel
theorem dm_X12_read_118 : mj_dec prog_14_method_92_code 118 = some (.getfield 487, 3) := by decide +kernel
theorem dm_X12_read_121 : mj_dec prog_14_method_92_code 121 = some (.putfield 421, 3) := by decide +kernel
theorem dm_X12_read_124 : mj_dec prog_14_method_92_code 124 = some (.aload_n 0, 1) := by decide +kernel
theorem dm_X12_read_125 : mj_dec prog_14_method_92_code 125 = some (.invokevirtual 457, 3) := by decide +kernel
theorem dm_X12_read_128 : mj_dec prog_14_method_92_code 128 = some (.aload_n 0, 1) := by decide +kernel
theorem dm_X12_read_129 : mj_dec prog_14_method_92_code 129 = some (.aload_n 0, 1) := by decide +kernel
theorem dm_X12_read_130 : mj_dec prog_14_method_92_code 130 = some (.invokevirtual 460, 3) := by decide +kernel
theorem dm_X12_read_133 : mj_dec prog_14_method_92_code 133 = some (.putfield 492, 3) := by decide +kernel
theorem dm_X12_read_136 : mj_dec prog_14_method_92_code 136 = some (.aload_n 0, 1) := by decide +kernel
theorem dm_X12_read_137 : mj_dec prog_14_method_92_code 137 = some (.bipush 125, 2) := by decide +kernel
theorem dm_X12_read_139 : mj_dec prog_14_method_92_code 139 = some (.invokevirtual 466, 3) := by decide +kernel
theorem dm_X12_read_142 : mj_dec prog_14_method_92_code 142 = some (.goto 83, 3) := by decide +kernel
theorem dm_X12_read_145 : mj_dec prog_14_method_92_code 145 = some (.aload_n 0, 1) := by decide +kernel
theorem dm_X12_read_146 : mj_dec prog_14_method_92_code 146 = some (.iconst 1, 1) := by decide +kernel
theorem dm_X12_read_147 : mj_dec prog_14_method_92_code 147 = some (.putfield 478, 3) := by decide +kernel
theorem dm_X12_read_150 : mj_dec prog_14_method_92_code 150 = some (.aload_n 0, 1) := by decide +kernel
theorem dm_X12_read_151 : mj_dec prog_14_method_92_code 151 = some (.aload_n 0, 1) := by decide +kernel
theorem dm_X12_read_152 : mj_dec prog_14_method_92_code 152 = some (.invokevirtual 460, 3) := by decide +kernel
theorem dm_X12_read_155 : mj_dec prog_14_method_92_code 155 = some (.putfield 492, 3) := by decide +kernel
theorem dm_X12_read_158 : mj_dec prog_14_method_92_code 158 = some (.goto 67, 3) := by decide +kernel
theorem dm_X12_read_161 : mj_dec prog_14_method_92_code 161 = some (.iload_n 3, 1) := by decide +kernel
theorem dm_X12_read_162 : mj_dec prog_14_method_92_code 162 = some (.ifCond .eq 55, 3) := by decide +kernel
theorem dm_X12_read_165 : mj_dec prog_14_method_92_code 165 = some (.aload_n 0, 1) := by decide +kernel
theorem dm_X12_read_166 : mj_dec prog_14_method_92_code 166 = some (.iconst 3, 1) := by decide +kernel
theorem dm_X12_read_167 : mj_dec prog_14_method_92_code 167 = some (.putfield 478, 3) := by decide +kernel
theorem dm_X12_read_170 : mj_dec prog_14_method_92_code 170 = some (.aload_n 0, 1) := by decide +kernel
theorem dm_X12_read_171 : mj_dec prog_14_method_92_code 171 = some (.aload_n 0, 1) := by decide +kernel
theorem dm_X12_read_172 : mj_dec prog_14_method_92_code 172 = some (.getfield 386, 3) := by decide +kernel
theorem dm_X12_read_175 : mj_dec prog_14_method_92_code 175 = some (.putfield 495, 3) := by decide +kernel
theorem dm_X12_read_178 : mj_dec prog_14_method_92_code 178 = some (.aload_n 0, 1) := by decide +kernel
theorem dm_X12_read_179 : mj_dec prog_14_method_92_code 179 = some (.invokevirtual 437, 3) := by decide +kernel
theorem dm_X12_read_182 : mj_dec prog_14_method_92_code 182 = some (.aload_n 0, 1) := by decide +kernel
theorem dm_X12_read_183 : mj_dec prog_14_method_92_code 183 = some (.invokevirtual 457, 3) := by decide +kernel
theorem dm_X12_read_186 : mj_dec prog_14_method_92_code 186 = some (.aload_n 0, 1) := by decide +kernel
theorem dm_X12_read_187 : mj_dec prog_14_method_92_code 187 = some (.aload_n 0, 1) := by decide +kernel
theorem dm_X12_read_188 : mj_dec prog_14_method_92_code 188 = some (.invokevirtual 460, 3) := by decide +kernel
theorem dm_X12_read_191 : mj_dec prog_14_method_92_code 191 = some (.putfield 498, 3) := by decide +kernel
theorem dm_X12_read_194 : mj_dec prog_14_method_92_code 194 = some (.aload_n 0, 1) := by decide +kernel
theorem dm_X12_read_195 : mj_dec prog_14_method_92_code 195 = some (.bipush 41, 2) := by decide +kernel
theorem dm_X12_read_197 : mj_dec prog_14_method_92_code 197 = some (.invokevirtual 466, 3) := by decide +kernel
theorem dm_X12_read_200 : mj_dec prog_14_method_92_code 200 = some (.aload_n 0, 1) := by decide +kernel
theorem dm_X12_read_201 : mj_dec prog_14_method_92_code 201 = some (.bipush 58, 2) := by decide +kernel
theorem dm_X12_read_203 : mj_dec prog_14_method_92_code 203 = some (.invokevirtual 463, 3) := by decide +kernel
theorem dm_X12_read_206 : mj_dec prog_14_method_92_code 206 = some (.aload_n 0, 1) := by decide +kernel
theorem dm_X12_read_207 : mj_dec prog_14_method_92_code 207 = some (.aload_n 0, 1) := by decide +kernel
theorem dm_X12_read_208 : mj_dec prog_14_method_92_code 208 = some (.invokevirtual 460, 3) := by decide +kernel
theorem dm_X12_read_211 : mj_dec prog_14_method_92_code 211 = some (.putfield 492, 3) := by decide +kernel
theorem dm_X12_read_214 : mj_dec prog_14_method_92_code 214 = some (.goto 11, 3) := by decide +kernel
theorem dm_X12_read_217 : mj_dec prog_14_method_92_code 217 = some (.aload_n 0, 1) := by decide +kernel
theorem dm_X12_read_218 : mj_dec prog_14_method_92_code 218 = some (.aload_n 0, 1) := by decide +kernel
theorem dm_X12_read_219 : mj_dec prog_14_method_92_code 219 = some (.invokevirtual 460, 3) := by decide +kernel
theorem dm_X12_read_222 : mj_dec prog_14_method_92_code 222 = some (.putfield 492, 3) := by decide +kernel
theorem dm_X12_read_225 : mj_dec prog_14_method_92_code 225 = some (.aload_n 0, 1) := by decide +kernel
theorem dm_X12_read_226 : mj_dec prog_14_method_92_code 226 = some (.getfield 427, 3) := by decide +kernel
theorem dm_X12_read_229 : mj_dec prog_14_method_92_code 229 = some (.ifCond .ge 15, 3) := by decide +kernel
theorem dm_X12_read_232 : mj_dec prog_14_method_92_code 232 = some (.aload_n 0, 1) := by decide +kernel
theorem dm_X12_read_233 : mj_dec prog_14_method_92_code 233 = some (.getfield 380, 3) := by decide +kernel
theorem dm_X12_read_236 : mj_dec prog_14_method_92_code 236 = some (.ifCond .eq 8, 3) := by decide +kernel
theorem dm_X12_read_239 : mj_dec prog_14_method_92_code 239 = some (.aload_n 0, 1) := by decide +kernel
theorem dm_X12_read_240 : mj_dec prog_14_method_92_code 240 = some (.invokevirtual 433, 3) := by decide +kernel
theorem dm_X12_read_243 : mj_dec prog_14_method_92_code 243 = some (.pop, 1) := by decide +kernel
theorem dm_X12_read_244 : mj_dec prog_14_method_92_code 244 = some (.return_, 1) := by decide +kernel
theorem r_read_ {xt : mj_X} {d : Nat} {pre post : mj_H} {s : RS} {bf : Nat → Int} {ln n m mk : Nat} {F : Nat → Int → Bool} {T : Nat → Tok} (hm : pre.length = 102) (hd : 100 ≤ d) (hT : T = tkI bf ln F) (hK : TOKS T mk ln) (hTN : TN bf ln n m s) (hRM : RM T ln s 0) (hF0 : ∀ j, j ≤ 2 → FNp bf ln (F j) (beS s) m) (hF1 : liS T ≠ 2 → ∀ j, FNp bf ln (F j) (beS s) m) (hF2 : liS T = 2 → ¬ liW T → ∀ j, 3 ≤ j → FNp bf ln (F j) (teS s (Int64.ofInt (tqR (T 0)))) m) (hTX : ∀ i, tqS (tkI bf ln F i) = 2 → ∀ k : Nat, (k : Int) < tqD (tkI bf ln F i) → tqP (tkI bf ln F i) + 1 + k < ln ∧ bf (tqP (tkI bf ln F i) + 1 + k) = tqX (tkI bf ln F i) k) : pgN xt d 203 [.ref 102, ii (ln : Int)] (rS pre post s) (RRL pre post ln T s) := by
  have hln := hK.2.1
  have hmk200 := hK.1
  obtain ⟨r1, r2, r3, r4, r5, r6⟩ := id hRM
  have hP0 := P_ln hK 0
  have e120 : (Int64.ofInt 120).toInt = 120 := by decide
  have e121 : (Int64.ofInt 121).toInt = 121 := by decide
  have hfu : fuR = 1700 := rfl
  refine x_enter pm_X12_read (L0 := [(0, .ref 102), (1, ii (ln : Int))]) rfl (Nat.le_of_ble_eq_true rfl) (by omega) ?_
  refine me1 (pc' := 1) (L' := [(0, .ref 102), (1, ii (ln : Int))]) (S' := [.ref 102]) dm_X12_read_0 rfl rfl rfl rfl ?_
  refine me1 (pc' := 2) (L' := [(0, .ref 102), (1, ii (ln : Int))]) (S' := [ii (ln : Int), .ref 102]) dm_X12_read_1 rfl rfl rfl rfl ?_
  rcases (show liS T = 0 ∨ liS T = 1 ∨ liS T = 2 ∨ liS T = 3 by have := liS_r T; omega) with hls | hls | hls | hls
  · have hlz : ((liS T : Nat) : Int) = 0 := by rw [hls]; rfl
    refine x_cn (pc' := 5) (rest := []) dm_X12_read_2 rfl (q_inv (As := [ii (ln : Int)]) (S := []) hm rfl rfl rfl) rfl rfl rfl (r_begin_ (s := s) (hi := (mk + 3)) hm (by omega) hTN (fun j _ => hF1 (by omega) j)) ?_
    rintro _ ⟨t0, rfl, b0D, b051, b052, b042, b0F⟩
    have b0q : (fiS t0 53 0).2.2.2 = s.2.2.2 := by show t0.2.2.2 = _; rw [b0F.1]
    refine me1 (pc' := 6) (L' := [(0, .ref 102), (1, ii (ln : Int))]) (S' := [.ref 102]) dm_X12_read_5 rfl rfl rfl rfl ?_
    refine me0 (pc' := 7) (S' := [ii 0, .ref 102]) dm_X12_read_6 rfl rfl rfl rfl ?_
    refine me3 (pc' := 10) (S' := []) (h1 := rI pre post (va_up t0.1 53 0) t0.2.1 t0.2.2.1 t0.2.2.2) dm_X12_read_7 (q_puti hm rfl rfl (fun m i l v => rf_53 m i l v)) rfl rfl rfl ?_
    refine pg_cast (h2 := rI pre post ((fiS t0 53 0).1) ((fiS t0 53 0).2.1) ((fiS t0 53 0).2.2.1) ((fiS t0 53 0).2.2.2)) rfl ?_
    refine me1 (pc' := 11) (L' := [(0, .ref 102), (1, ii (ln : Int))]) (S' := [.ref 102]) dm_X12_read_10 rfl rfl rfl rfl ?_
    refine me1 (pc' := 12) (L' := [(0, .ref 102), (1, ii (ln : Int))]) (S' := [ii (ln : Int), .ref 102]) dm_X12_read_11 rfl rfl rfl rfl ?_
    refine x_cv (pc' := 15) (rest := []) dm_X12_read_12 rfl (q_inv (As := [ii (ln : Int)]) (S := []) hm rfl rfl rfl) rfl rfl rfl (r_isNaming_ (s := fiS t0 53 0) (hi := (mk + 3)) (hi2 := (mk + 3)) hm (by omega) hT hK (TN_fi (by decide) (TN_k b0F hTN)) (RD_fi (by decide) b0D) (fun j hj => FN_b b0q ((fun j _ => hF1 (by omega) j) j hj)) (by omega)) ?_
    rintro _ _ ⟨rfl, t1, rfl, b1D, b151, b152, b142, b1F⟩
    have F1 : rlF s t1 := rlF_tr (rlF_b b0F) (rlF_tr (rlF_fi (by decide)) (rlF_b b1F))
    have t1_3 : t1.1 3 = s.1 3 := (b1F.2.1 3 (by decide)).trans ((fi_k (by decide)).trans (b0F.2.1 3 (by decide)))
    have t1_4 : t1.1 4 = s.1 4 := (b1F.2.1 4 (by decide)).trans ((fi_k (by decide)).trans (b0F.2.1 4 (by decide)))
    have t1_50 : t1.1 50 = s.1 50 := (b1F.2.1 50 (by decide)).trans ((fi_k (by decide)).trans (b0F.2.1 50 (by decide)))
    refine pg_st (S' := [ii 0]) (congrArg (fun z => z :: []) (zf (fun z => by have := liS_na.mp z; omega)).symm) ?_
    refine me1 (pc' := 16) (L' := [(2, ii 0), (0, .ref 102), (1, ii (ln : Int))]) (S' := []) dm_X12_read_15 rfl rfl rfl rfl ?_
    refine me1 (pc' := 17) (L' := [(2, ii 0), (0, .ref 102), (1, ii (ln : Int))]) (S' := [ii 0]) dm_X12_read_16 rfl rfl rfl rfl ?_
    refine me_1f (pc' := 20) dm_X12_read_17 rfl (by decide) rfl ?_
    refine me1 (pc' := 21) (L' := [(2, ii 0), (0, .ref 102), (1, ii (ln : Int))]) (S' := [.ref 102]) dm_X12_read_20 rfl rfl rfl rfl ?_
    refine me1 (pc' := 22) (L' := [(2, ii 0), (0, .ref 102), (1, ii (ln : Int))]) (S' := [ii (ln : Int), .ref 102]) dm_X12_read_21 rfl rfl rfl rfl ?_
    refine x_cv (pc' := 25) (rest := []) dm_X12_read_22 rfl (q_inv (As := [ii (ln : Int)]) (S := []) hm rfl rfl rfl) rfl rfl rfl (r_isAmending_ (s := t1) (hi := mk + 3) (hi2 := mk + 3) hm (by omega) hT hK (TN_k b1F (TN_fi (by decide) (TN_k b0F hTN))) b1D (fun j hj => FN_b (by rw [b1F.1]; exact b0q) ((fun j _ => hF1 (by omega) j) j hj)) (by omega)) ?_
    rintro _ _ ⟨rfl, t2, rfl, b2D, b251, b252, b242, b2F⟩
    have F2 : rlF s t2 := rlF_tr F1 (rlF_b b2F)
    have t2_3 : t2.1 3 = s.1 3 := (b2F.2.1 3 (by decide)).trans t1_3
    have t2_4 : t2.1 4 = s.1 4 := (b2F.2.1 4 (by decide)).trans t1_4
    have t2_50 : t2.1 50 = s.1 50 := (b2F.2.1 50 (by decide)).trans t1_50
    refine pg_st (S' := [ii 0]) (congrArg (fun z => z :: []) (zf (fun z => by have := (liS_am (by omega)).mp z; omega)).symm) ?_
    refine me_1t (pc' := 32) dm_X12_read_25 rfl (by decide) ?_
    refine me0 (pc' := 33) (S' := [ii 0]) dm_X12_read_32 rfl rfl rfl rfl ?_
    refine me1 (pc' := 34) (L' := [(3, ii 0), (2, ii 0), (0, .ref 102), (1, ii (ln : Int))]) (S' := []) dm_X12_read_33 rfl rfl rfl rfl ?_
    refine me1 (pc' := 35) (L' := [(3, ii 0), (2, ii 0), (0, .ref 102), (1, ii (ln : Int))]) (S' := [ii 0]) dm_X12_read_34 rfl rfl rfl rfl ?_
    refine me_1f (pc' := 38) dm_X12_read_35 rfl (by decide) rfl ?_
    refine me1 (pc' := 39) (L' := [(3, ii 0), (2, ii 0), (0, .ref 102), (1, ii (ln : Int))]) (S' := [ii 0]) dm_X12_read_38 rfl rfl rfl rfl ?_
    refine me_1t (pc' := 94) dm_X12_read_39 rfl (by decide) ?_
    refine me1 (pc' := 95) (L' := [(3, ii 0), (2, ii 0), (0, .ref 102), (1, ii (ln : Int))]) (S' := [ii 0]) dm_X12_read_94 rfl rfl rfl rfl ?_
    refine me_1t (pc' := 161) dm_X12_read_95 rfl (by decide) ?_
    refine me1 (pc' := 162) (L' := [(3, ii 0), (2, ii 0), (0, .ref 102), (1, ii (ln : Int))]) (S' := [ii 0]) dm_X12_read_161 rfl rfl rfl rfl ?_
    refine me_1t (pc' := 217) dm_X12_read_162 rfl (by decide) ?_
    refine me1 (pc' := 218) (L' := [(3, ii 0), (2, ii 0), (0, .ref 102), (1, ii (ln : Int))]) (S' := [.ref 102]) dm_X12_read_217 rfl rfl rfl rfl ?_
    refine me1 (pc' := 219) (L' := [(3, ii 0), (2, ii 0), (0, .ref 102), (1, ii (ln : Int))]) (S' := [.ref 102, .ref 102]) dm_X12_read_218 rfl rfl rfl rfl ?_
    have t2RM : RM T ln t2 0 := RM_eq hRM t2_3 t2_4 t2_50 (Nat.le_refl _)
    rcases eb : pR T fuR 0 0 0 with p_eb | j_eb
    · refine x_cv (pc' := 222) (rest := [.ref 102]) dm_X12_read_219 rfl (q_inv (As := []) (S := [.ref 102]) hm rfl rfl rfl) rfl rfl rfl (r_expr_ hm hT hK (hi := mk + 3) (by omega) hTX fuR _ (t2) 0 0 (by omega) b2D b251 b252 t2RM (by omega) (by omega) (by omega)) ?_
      rintro x_t6 h_t6 hxt6
      obtain ⟨t6, t6v, rfl, rfl, t6R, t652, t6E⟩ := RQ_e eb hxt6
      have hplt6 := pR_ln hK _ _ _ _ _ eb
      have bd : 0 ≤ t6.1 52 ∧ t6.1 52 ≤ 1000 := by omega
      have F6 : rlF s t6 := rlF_tr F2 (rlF_d t6R)
      obtain ⟨t6a0, t6b0, t6c0⟩ := id t6E
      have t6a : t6.1 4 + _ ≤ t2.1 4 + _ := t6a0
      have t6b : t6.1 3 + _ ≤ t2.1 3 + _ := t6b0
      have t6c : t6.1 50 + _ ≤ t2.1 50 + _ := t6c0
      refine me3 (pc' := 225) (S' := []) (h1 := rI pre post (va_up t6.1 54 t6v) t6.2.1 t6.2.2.1 t6.2.2.2) dm_X12_read_222 (q_puti hm rfl rfl (fun m i l v => rf_54 m i l v)) rfl rfl rfl ?_
      refine pg_cast (h2 := rI pre post ((fiS t6 54 t6v).1) ((fiS t6 54 t6v).2.1) ((fiS t6 54 t6v).2.2.1) ((fiS t6 54 t6v).2.2.2)) rfl ?_
      refine me1 (pc' := 226) (L' := [(3, ii 0), (2, ii 0), (0, .ref 102), (1, ii (ln : Int))]) (S' := [.ref 102]) dm_X12_read_225 rfl rfl rfl rfl ?_
      refine me3 (pc' := 229) (S' := [ii (((fiS t6 54 t6v).1) 52)]) dm_X12_read_226 (q_geti (v := ((fiS t6 54 t6v).1) 52) hm rfl (fun m i l => rg_52 m i l) rfl) rfl rfl rfl ?_
      refine y_1ge (a := ((fiS t6 54 t6v).1) 52) (t := 244) (pc' := 232) dm_X12_read_229 rfl rfl (by rw [fi_k (by decide)]; omega) (fun hb1 => ?_) (fun hb1 => ?_)
      · refine y_ret (r := none) dm_X12_read_244 rfl rfl rfl ?_
        exact ⟨rfl, RRL_e (liR_x (liA_0 hls) (liX_en (by omega) eb)) (rlF_tr F6 (rlF_fi (k := 54) (x := t6v) (by decide))) (by rw [fi_k (by decide)]; omega) (by rw [fi_k (by decide)]; omega) (by rw [fi_k (by decide)]; omega) (by rw [fi_k (by decide)]; omega)⟩
      · exfalso; rw [fi_k (by decide)] at hb1; omega
    · refine x_cv (pc' := 222) (rest := [.ref 102]) dm_X12_read_219 rfl (q_inv (As := []) (S := [.ref 102]) hm rfl rfl rfl) rfl rfl rfl (r_expr_ hm hT hK (hi := mk + 3) (by omega) hTX fuR _ (t2) 0 0 (by omega) b2D b251 b252 t2RM (by omega) (by omega) (by omega)) ?_
      rintro x_t6 h_t6 hxt6
      obtain ⟨t6, rfl, t6R, t6D, t651, t652, t6M, neb, Beb, rfl, t6p, t6q, t6B, t6C⟩ := RQ_v eb hxt6
      have t6M : RMd T (t2) t6 0 j_eb 0 (-1) := t6M
      have hjeb := pR_mk hK _ 0 _ _ _ (show 0 ≤ mk by omega) eb
      have hjjeb := hjeb.2.2 (by decide)
      have P_eb := P_ln hK j_eb
      have F6 : rlF s t6 := rlF_tr F2 (rlF_d t6R)
      have t6p : t2.1 50 ≤ _ := t6p
      obtain ⟨t6a0, t6b0, t6c0⟩ := id t6M
      have t6a : t6.1 4 + _ ≤ t2.1 4 + _ := t6a0
      have t6b : t6.1 3 + _ ≤ t2.1 3 + _ := t6b0
      have t6c : t6.1 50 + _ + _ ≤ t2.1 50 + _ ∧ 2 * t6.1 4 + _ + _ ≤ 2 * t2.1 4 + _ := t6c0
      have t638 : t6.1 38 = ((tqS (T j_eb) : Nat) : Int) := by rw [hT]; exact (RD_38 t6D).1
      have t639 : t6.1 39 = ((tqP (T j_eb) : Nat) : Int) := by rw [hT]; exact (RD_38 t6D).2
      have t68 : tqS (T j_eb) ≤ 8 := by rw [hT]; exact tkI_8
      refine me3 (pc' := 225) (S' := []) (h1 := rI pre post (va_up t6.1 54 (neb : Int)) t6.2.1 t6.2.2.1 t6.2.2.2) dm_X12_read_222 (q_puti hm rfl rfl (fun m i l v => rf_54 m i l v)) rfl rfl rfl ?_
      refine pg_cast (h2 := rI pre post ((fiS t6 54 (neb : Int)).1) ((fiS t6 54 (neb : Int)).2.1) ((fiS t6 54 (neb : Int)).2.2.1) ((fiS t6 54 (neb : Int)).2.2.2)) rfl ?_
      refine me1 (pc' := 226) (L' := [(3, ii 0), (2, ii 0), (0, .ref 102), (1, ii (ln : Int))]) (S' := [.ref 102]) dm_X12_read_225 rfl rfl rfl rfl ?_
      refine me3 (pc' := 229) (S' := [ii (((fiS t6 54 (neb : Int)).1) 52)]) dm_X12_read_226 (q_geti (v := ((fiS t6 54 (neb : Int)).1) 52) hm rfl (fun m i l => rg_52 m i l) rfl) rfl rfl rfl ?_
      refine y_1ge (a := ((fiS t6 54 (neb : Int)).1) 52) (t := 244) (pc' := 232) dm_X12_read_229 rfl rfl (by rw [fi_k (by decide)]; omega) (fun hb2 => ?_) (fun hb2 => ?_)
      · exfalso; rw [fi_k (by decide)] at hb2; omega
      · refine me1 (pc' := 233) (L' := [(3, ii 0), (2, ii 0), (0, .ref 102), (1, ii (ln : Int))]) (S' := [.ref 102]) dm_X12_read_232 rfl rfl rfl rfl ?_
        refine me3 (pc' := 236) (S' := [ii (((fiS t6 54 (neb : Int)).1) 38)]) dm_X12_read_233 (q_geti (v := ((fiS t6 54 (neb : Int)).1) 38) hm rfl (fun m i l => rg_38 m i l) rfl) rfl rfl rfl ?_
        refine y_1eq (a := ((fiS t6 54 (neb : Int)).1) 38) (t := 244) (pc' := 239) dm_X12_read_236 rfl rfl (by rw [fi_k (by decide)]; omega) (fun hb3 => ?_) (fun hb3 => ?_)
        · rw [fi_k (by decide)] at hb3
          refine y_ret (r := none) dm_X12_read_244 rfl rfl rfl ?_
          have h653 : t6.1 53 = 0 := (t6R.2.2.1 53 (by decide)).trans ((b2F.2.1 53 (by decide)).trans ((b1F.2.1 53 (by decide)).trans fi_at))
          exact ⟨rfl, RRL_v (o := 0) (rt := neb) (B := Beb) (liR_v (liA_0 hls) ((liX_vn (by omega) eb).trans (liE_0 (by omega)))) (rlF_tr F6 (rlF_fi (k := 54) (x := (neb : Int)) (by decide))) (by rw [fi_k (by decide)]; omega) (by rw [fi_k (by decide)]; omega) (by rw [fi_k (by decide)]; omega) ((fi_k (by decide)).trans t652) ((fi_k (by decide)).trans (h653.trans hlz.symm)) (fun z => absurd hls z) fi_at ((fi_k (by decide)).trans t6B) (by omega) t6q (by rw [hls]; rfl) (rR_k _ _ _ _ _ _ _ _ _ _ (ndK_fi (by decide)) (Nat.le_refl _) t6C) (fun z => by omega) (by rw [fi_k (by decide)]; omega)⟩
        · rw [fi_k (by decide)] at hb3
          refine me1 (pc' := 240) (L' := [(3, ii 0), (2, ii 0), (0, .ref 102), (1, ii (ln : Int))]) (S' := [.ref 102]) dm_X12_read_239 rfl rfl rfl rfl ?_
          refine x_cv (pc' := 243) (rest := []) dm_X12_read_240 rfl (q_inv (As := []) (S := []) hm rfl rfl rfl) rfl rfl rfl (r_wrong_ (s := (fiS t6 54 (neb : Int))) hm (by omega) (by rw [fi_k (by decide)]; omega)) ?_
          rintro _ _ ⟨rfl, rfl⟩
          refine me0 (pc' := 244) (S' := []) dm_X12_read_243 rfl rfl rfl rfl ?_
          refine y_ret (r := none) dm_X12_read_244 rfl rfl rfl ?_
          exact ⟨rfl, RRL_e (liR_x (liA_0 hls) ((liX_vn (by omega) eb).trans (liE_1 (by omega)))) (rlF_tr (rlF_tr F6 (rlF_fi (k := 54) (x := (neb : Int)) (by decide))) (rlF_d (rdT_wr _).1)) (by rw [(rdT_wr _).2.2.1]; rw [fi_k (by decide)]; omega) (by rw [(rdT_wr _).2.1]; rw [fi_k (by decide)]; omega) (by rw [(rdT_wr _).2.2.2.1]; rw [fi_k (by decide)]; omega) ((wr_52 (by rw [fi_k (by decide)]; omega)).trans ((fi_k (by decide)).trans t639))⟩
  · have hlz : ((liS T : Nat) : Int) = 1 := by rw [hls]; rfl
    have h1m := liS_1 hls
    have h2m := liS_n2 hls
    have hmk3 := TOKS_lt hK (i := 1) (by have := h1m.1; omega)
    have hnm := liS_nm (T := T) (by omega)
    obtain ⟨hRr, hox, hoy⟩ := (show _ ∧ _ ∧ _ by have z := hnm; rw [hT] at z; have y := nm_own z; rw [← hT] at y; exact y)
    have e41 : (Int64.ofInt (tqR (T 0))).toInt = tqR (T 0) := n_toL (by omega) (by omega)
    have P01 := P_le hK (i := 0) (j := 1) (by omega) (by omega)
    have P02 := P_le hK (i := 0) (j := 2) (by omega) (by omega)
    by_cases hw : liW T
    · refine x_cn (pc' := 5) (rest := []) dm_X12_read_2 rfl (q_inv (As := [ii (ln : Int)]) (S := []) hm rfl rfl rfl) rfl rfl rfl (r_begin_ (s := s) (hi := (mk + 3)) hm (by omega) hTN (fun j _ => hF1 (by omega) j)) ?_
      rintro _ ⟨t0, rfl, b0D, b051, b052, b042, b0F⟩
      have b0q : (fiS t0 53 0).2.2.2 = s.2.2.2 := by show t0.2.2.2 = _; rw [b0F.1]
      refine me1 (pc' := 6) (L' := [(0, .ref 102), (1, ii (ln : Int))]) (S' := [.ref 102]) dm_X12_read_5 rfl rfl rfl rfl ?_
      refine me0 (pc' := 7) (S' := [ii 0, .ref 102]) dm_X12_read_6 rfl rfl rfl rfl ?_
      refine me3 (pc' := 10) (S' := []) (h1 := rI pre post (va_up t0.1 53 0) t0.2.1 t0.2.2.1 t0.2.2.2) dm_X12_read_7 (q_puti hm rfl rfl (fun m i l v => rf_53 m i l v)) rfl rfl rfl ?_
      refine pg_cast (h2 := rI pre post ((fiS t0 53 0).1) ((fiS t0 53 0).2.1) ((fiS t0 53 0).2.2.1) ((fiS t0 53 0).2.2.2)) rfl ?_
      refine me1 (pc' := 11) (L' := [(0, .ref 102), (1, ii (ln : Int))]) (S' := [.ref 102]) dm_X12_read_10 rfl rfl rfl rfl ?_
      refine me1 (pc' := 12) (L' := [(0, .ref 102), (1, ii (ln : Int))]) (S' := [ii (ln : Int), .ref 102]) dm_X12_read_11 rfl rfl rfl rfl ?_
      refine x_cv (pc' := 15) (rest := []) dm_X12_read_12 rfl (q_inv (As := [ii (ln : Int)]) (S := []) hm rfl rfl rfl) rfl rfl rfl (r_isNaming_ (s := fiS t0 53 0) (hi := (mk + 3)) (hi2 := (mk + 3)) hm (by omega) hT hK (TN_fi (by decide) (TN_k b0F hTN)) (RD_fi (by decide) b0D) (fun j hj => FN_b b0q ((fun j _ => hF1 (by omega) j) j hj)) (by omega)) ?_
      rintro _ _ ⟨rfl, t1, rfl, b1D, b151, b152, b142, b1F⟩
      have F1 : rlF s t1 := rlF_tr (rlF_b b0F) (rlF_tr (rlF_fi (by decide)) (rlF_b b1F))
      have t1_3 : t1.1 3 = s.1 3 := (b1F.2.1 3 (by decide)).trans ((fi_k (by decide)).trans (b0F.2.1 3 (by decide)))
      have t1_4 : t1.1 4 = s.1 4 := (b1F.2.1 4 (by decide)).trans ((fi_k (by decide)).trans (b0F.2.1 4 (by decide)))
      have t1_50 : t1.1 50 = s.1 50 := (b1F.2.1 50 (by decide)).trans ((fi_k (by decide)).trans (b0F.2.1 50 (by decide)))
      refine pg_st (S' := [ii 1]) (congrArg (fun z => z :: []) (zt (liS_na.mpr (by omega))).symm) ?_
      refine me1 (pc' := 16) (L' := [(2, ii 1), (0, .ref 102), (1, ii (ln : Int))]) (S' := []) dm_X12_read_15 rfl rfl rfl rfl ?_
      refine me1 (pc' := 17) (L' := [(2, ii 1), (0, .ref 102), (1, ii (ln : Int))]) (S' := [ii 1]) dm_X12_read_16 rfl rfl rfl rfl ?_
      refine me_1t (pc' := 32) dm_X12_read_17 rfl (by decide) ?_
      refine me0 (pc' := 33) (S' := [ii 0]) dm_X12_read_32 rfl rfl rfl rfl ?_
      refine me1 (pc' := 34) (L' := [(3, ii 0), (2, ii 1), (0, .ref 102), (1, ii (ln : Int))]) (S' := []) dm_X12_read_33 rfl rfl rfl rfl ?_
      refine me1 (pc' := 35) (L' := [(3, ii 0), (2, ii 1), (0, .ref 102), (1, ii (ln : Int))]) (S' := [ii 1]) dm_X12_read_34 rfl rfl rfl rfl ?_
      refine me_1t (pc' := 42) dm_X12_read_35 rfl (by decide) ?_
      have d41 : t1.2.1 41 = (Int64.ofInt (tqR (T 0))) := by rw [hT]; exact RD_dn b1D (by rw [← hT]; exact hnm)
      have c38 : t1.1 38 = ((tqS (T 0) : Nat) : Int) := by rw [hT]; exact (RD_38 b1D).1
      have c39 : t1.1 39 = ((tqP (T 0) : Nat) : Int) := by rw [hT]; exact (RD_38 b1D).2
      have c52 : t1.1 52 = -1 := b152
      refine me1 (pc' := 43) (L' := [(3, ii 0), (2, ii 1), (0, .ref 102), (1, ii (ln : Int))]) (S' := [.ref 102]) dm_X12_read_42 rfl rfl rfl rfl ?_
      refine me1 (pc' := 44) (L' := [(3, ii 0), (2, ii 1), (0, .ref 102), (1, ii (ln : Int))]) (S' := [.ref 102, .ref 102]) dm_X12_read_43 rfl rfl rfl rfl ?_
      refine me3 (pc' := 47) (S' := [.long (t1.2.1 41), .ref 102]) dm_X12_read_44 (q_getl (v := t1.2.1 41) hm rfl (fun m i l => rg_41 m i l) rfl) rfl rfl rfl ?_
      refine me3 (pc' := 50) (S' := []) (h1 := rI pre post t1.1 (va_up t1.2.1 56 (t1.2.1 41)) t1.2.2.1 t1.2.2.2) dm_X12_read_47 (q_putl hm rfl rfl (fun m i l v => rf_56 m i l v)) rfl rfl rfl ?_
      refine me1 (pc' := 51) (L' := [(3, ii 0), (2, ii 1), (0, .ref 102), (1, ii (ln : Int))]) (S' := [.ref 102]) dm_X12_read_50 rfl rfl rfl rfl ?_
      refine me3 (pc' := 54) (S' := [.long (t1.2.1 41)]) dm_X12_read_51 (q_getl (v := t1.2.1 41) hm rfl (fun m i l => rg_56 m i l) rfl) rfl rfl rfl ?_
      refine me3 (pc' := 57) (S' := [.long (Int64.ofInt 120), .long (t1.2.1 41)]) dm_X12_read_54 rfl rfl rfl rfl ?_
      refine y_leq (x := t1.2.1 41) (y := Int64.ofInt 120) (t := 84) (pc1 := 58) (pc' := 61) dm_X12_read_57 rfl dm_X12_read_58 rfl rfl (fun hb4 => ?_) (fun hb4 => ?_)
      · have hb4i := congrArg Int64.toInt hb4
        rw [d41, e41, e120] at hb4i
        refine me1 (pc' := 85) (L' := [(3, ii 0), (2, ii 1), (0, .ref 102), (1, ii (ln : Int))]) (S' := [.ref 102]) dm_X12_read_84 rfl rfl rfl rfl ?_
        refine x_cv (pc' := 88) (rest := []) dm_X12_read_85 rfl (q_inv (As := []) (S := []) hm rfl rfl rfl) rfl rfl rfl (r_wrong_ (s := (t1.1, va_up t1.2.1 56 (t1.2.1 41), t1.2.2.1, t1.2.2.2)) hm (by omega) (by show -2147483648 ≤ t1.1 52 ∧ t1.1 52 ≤ 2147483647; omega)) ?_
        rintro _ _ ⟨rfl, rfl⟩
        refine me0 (pc' := 89) (S' := []) dm_X12_read_88 rfl rfl rfl rfl ?_
        refine y_ret (r := none) dm_X12_read_89 rfl rfl rfl ?_
        have fw : rlF s (t1.1, va_up t1.2.1 56 (t1.2.1 41), t1.2.2.1, t1.2.2.2) := rlF_tr F1 (rlF_fl (k := 56) (Or.inr rfl))
        exact ⟨rfl, RRL_e (liR_a (liA_w hw)) (rlF_tr fw (rlF_d (rdT_wr _).1)) (by rw [(rdT_wr _).2.2.1]; show t1.1 4 ≤ _; omega) (by rw [(rdT_wr _).2.1]; show t1.1 3 ≤ _; omega) (by rw [(rdT_wr _).2.2.2.1]; show t1.1 50 ≤ _; omega) ((wr_52 (by show t1.1 52 < 0; omega)).trans c39)⟩
      · have hb4i : ¬ (t1.2.1 41).toInt = (Int64.ofInt 120).toInt := fun z => hb4 (Int64.toInt_inj.mp z)
        rw [d41, e41, e120] at hb4i
        refine me1 (pc' := 62) (L' := [(3, ii 0), (2, ii 1), (0, .ref 102), (1, ii (ln : Int))]) (S' := [.ref 102]) dm_X12_read_61 rfl rfl rfl rfl ?_
        refine me3 (pc' := 65) (S' := [.long (t1.2.1 41)]) dm_X12_read_62 (q_getl (v := t1.2.1 41) hm rfl (fun m i l => rg_56 m i l) rfl) rfl rfl rfl ?_
        refine me3 (pc' := 68) (S' := [.long (Int64.ofInt 121), .long (t1.2.1 41)]) dm_X12_read_65 rfl rfl rfl rfl ?_
        refine y_leq (x := t1.2.1 41) (y := Int64.ofInt 121) (t := 84) (pc1 := 69) (pc' := 72) dm_X12_read_68 rfl dm_X12_read_69 rfl rfl (fun hb5 => ?_) (fun hb5 => ?_)
        · have hb5i := congrArg Int64.toInt hb5
          rw [d41, e41, e121] at hb5i
          refine me1 (pc' := 85) (L' := [(3, ii 0), (2, ii 1), (0, .ref 102), (1, ii (ln : Int))]) (S' := [.ref 102]) dm_X12_read_84 rfl rfl rfl rfl ?_
          refine x_cv (pc' := 88) (rest := []) dm_X12_read_85 rfl (q_inv (As := []) (S := []) hm rfl rfl rfl) rfl rfl rfl (r_wrong_ (s := (t1.1, va_up t1.2.1 56 (t1.2.1 41), t1.2.2.1, t1.2.2.2)) hm (by omega) (by show -2147483648 ≤ t1.1 52 ∧ t1.1 52 ≤ 2147483647; omega)) ?_
          rintro _ _ ⟨rfl, rfl⟩
          refine me0 (pc' := 89) (S' := []) dm_X12_read_88 rfl rfl rfl rfl ?_
          refine y_ret (r := none) dm_X12_read_89 rfl rfl rfl ?_
          have fw : rlF s (t1.1, va_up t1.2.1 56 (t1.2.1 41), t1.2.2.1, t1.2.2.2) := rlF_tr F1 (rlF_fl (k := 56) (Or.inr rfl))
          exact ⟨rfl, RRL_e (liR_a (liA_w hw)) (rlF_tr fw (rlF_d (rdT_wr _).1)) (by rw [(rdT_wr _).2.2.1]; show t1.1 4 ≤ _; omega) (by rw [(rdT_wr _).2.1]; show t1.1 3 ≤ _; omega) (by rw [(rdT_wr _).2.2.2.1]; show t1.1 50 ≤ _; omega) ((wr_52 (by show t1.1 52 < 0; omega)).trans c39)⟩
        · have hb5i : ¬ (t1.2.1 41).toInt = (Int64.ofInt 121).toInt := fun z => hb5 (Int64.toInt_inj.mp z)
          rw [d41, e41, e121] at hb5i
          exfalso; omega
    · refine x_cn (pc' := 5) (rest := []) dm_X12_read_2 rfl (q_inv (As := [ii (ln : Int)]) (S := []) hm rfl rfl rfl) rfl rfl rfl (r_begin_ (s := s) (hi := (mk + 3)) hm (by omega) hTN (fun j _ => hF1 (by omega) j)) ?_
      rintro _ ⟨t0, rfl, b0D, b051, b052, b042, b0F⟩
      have b0q : (fiS t0 53 0).2.2.2 = s.2.2.2 := by show t0.2.2.2 = _; rw [b0F.1]
      refine me1 (pc' := 6) (L' := [(0, .ref 102), (1, ii (ln : Int))]) (S' := [.ref 102]) dm_X12_read_5 rfl rfl rfl rfl ?_
      refine me0 (pc' := 7) (S' := [ii 0, .ref 102]) dm_X12_read_6 rfl rfl rfl rfl ?_
      refine me3 (pc' := 10) (S' := []) (h1 := rI pre post (va_up t0.1 53 0) t0.2.1 t0.2.2.1 t0.2.2.2) dm_X12_read_7 (q_puti hm rfl rfl (fun m i l v => rf_53 m i l v)) rfl rfl rfl ?_
      refine pg_cast (h2 := rI pre post ((fiS t0 53 0).1) ((fiS t0 53 0).2.1) ((fiS t0 53 0).2.2.1) ((fiS t0 53 0).2.2.2)) rfl ?_
      refine me1 (pc' := 11) (L' := [(0, .ref 102), (1, ii (ln : Int))]) (S' := [.ref 102]) dm_X12_read_10 rfl rfl rfl rfl ?_
      refine me1 (pc' := 12) (L' := [(0, .ref 102), (1, ii (ln : Int))]) (S' := [ii (ln : Int), .ref 102]) dm_X12_read_11 rfl rfl rfl rfl ?_
      refine x_cv (pc' := 15) (rest := []) dm_X12_read_12 rfl (q_inv (As := [ii (ln : Int)]) (S := []) hm rfl rfl rfl) rfl rfl rfl (r_isNaming_ (s := fiS t0 53 0) (hi := (mk + 3)) (hi2 := (mk + 3)) hm (by omega) hT hK (TN_fi (by decide) (TN_k b0F hTN)) (RD_fi (by decide) b0D) (fun j hj => FN_b b0q ((fun j _ => hF1 (by omega) j) j hj)) (by omega)) ?_
      rintro _ _ ⟨rfl, t1, rfl, b1D, b151, b152, b142, b1F⟩
      have F1 : rlF s t1 := rlF_tr (rlF_b b0F) (rlF_tr (rlF_fi (by decide)) (rlF_b b1F))
      have t1_3 : t1.1 3 = s.1 3 := (b1F.2.1 3 (by decide)).trans ((fi_k (by decide)).trans (b0F.2.1 3 (by decide)))
      have t1_4 : t1.1 4 = s.1 4 := (b1F.2.1 4 (by decide)).trans ((fi_k (by decide)).trans (b0F.2.1 4 (by decide)))
      have t1_50 : t1.1 50 = s.1 50 := (b1F.2.1 50 (by decide)).trans ((fi_k (by decide)).trans (b0F.2.1 50 (by decide)))
      refine pg_st (S' := [ii 1]) (congrArg (fun z => z :: []) (zt (liS_na.mpr (by omega))).symm) ?_
      refine me1 (pc' := 16) (L' := [(2, ii 1), (0, .ref 102), (1, ii (ln : Int))]) (S' := []) dm_X12_read_15 rfl rfl rfl rfl ?_
      refine me1 (pc' := 17) (L' := [(2, ii 1), (0, .ref 102), (1, ii (ln : Int))]) (S' := [ii 1]) dm_X12_read_16 rfl rfl rfl rfl ?_
      refine me_1t (pc' := 32) dm_X12_read_17 rfl (by decide) ?_
      refine me0 (pc' := 33) (S' := [ii 0]) dm_X12_read_32 rfl rfl rfl rfl ?_
      refine me1 (pc' := 34) (L' := [(3, ii 0), (2, ii 1), (0, .ref 102), (1, ii (ln : Int))]) (S' := []) dm_X12_read_33 rfl rfl rfl rfl ?_
      refine me1 (pc' := 35) (L' := [(3, ii 0), (2, ii 1), (0, .ref 102), (1, ii (ln : Int))]) (S' := [ii 1]) dm_X12_read_34 rfl rfl rfl rfl ?_
      refine me_1t (pc' := 42) dm_X12_read_35 rfl (by decide) ?_
      have d41 : t1.2.1 41 = (Int64.ofInt (tqR (T 0))) := by rw [hT]; exact RD_dn b1D (by rw [← hT]; exact hnm)
      have c38 : t1.1 38 = ((tqS (T 0) : Nat) : Int) := by rw [hT]; exact (RD_38 b1D).1
      have c39 : t1.1 39 = ((tqP (T 0) : Nat) : Int) := by rw [hT]; exact (RD_38 b1D).2
      have c52 : t1.1 52 = -1 := b152
      refine me1 (pc' := 43) (L' := [(3, ii 0), (2, ii 1), (0, .ref 102), (1, ii (ln : Int))]) (S' := [.ref 102]) dm_X12_read_42 rfl rfl rfl rfl ?_
      refine me1 (pc' := 44) (L' := [(3, ii 0), (2, ii 1), (0, .ref 102), (1, ii (ln : Int))]) (S' := [.ref 102, .ref 102]) dm_X12_read_43 rfl rfl rfl rfl ?_
      refine me3 (pc' := 47) (S' := [.long (t1.2.1 41), .ref 102]) dm_X12_read_44 (q_getl (v := t1.2.1 41) hm rfl (fun m i l => rg_41 m i l) rfl) rfl rfl rfl ?_
      refine me3 (pc' := 50) (S' := []) (h1 := rI pre post t1.1 (va_up t1.2.1 56 (t1.2.1 41)) t1.2.2.1 t1.2.2.2) dm_X12_read_47 (q_putl hm rfl rfl (fun m i l v => rf_56 m i l v)) rfl rfl rfl ?_
      refine me1 (pc' := 51) (L' := [(3, ii 0), (2, ii 1), (0, .ref 102), (1, ii (ln : Int))]) (S' := [.ref 102]) dm_X12_read_50 rfl rfl rfl rfl ?_
      refine me3 (pc' := 54) (S' := [.long (t1.2.1 41)]) dm_X12_read_51 (q_getl (v := t1.2.1 41) hm rfl (fun m i l => rg_56 m i l) rfl) rfl rfl rfl ?_
      refine me3 (pc' := 57) (S' := [.long (Int64.ofInt 120), .long (t1.2.1 41)]) dm_X12_read_54 rfl rfl rfl rfl ?_
      refine y_leq (x := t1.2.1 41) (y := Int64.ofInt 120) (t := 84) (pc1 := 58) (pc' := 61) dm_X12_read_57 rfl dm_X12_read_58 rfl rfl (fun hb6 => ?_) (fun hb6 => ?_)
      · have hb6i := congrArg Int64.toInt hb6
        rw [d41, e41, e120] at hb6i
        exfalso; omega
      · have hb6i : ¬ (t1.2.1 41).toInt = (Int64.ofInt 120).toInt := fun z => hb6 (Int64.toInt_inj.mp z)
        rw [d41, e41, e120] at hb6i
        refine me1 (pc' := 62) (L' := [(3, ii 0), (2, ii 1), (0, .ref 102), (1, ii (ln : Int))]) (S' := [.ref 102]) dm_X12_read_61 rfl rfl rfl rfl ?_
        refine me3 (pc' := 65) (S' := [.long (t1.2.1 41)]) dm_X12_read_62 (q_getl (v := t1.2.1 41) hm rfl (fun m i l => rg_56 m i l) rfl) rfl rfl rfl ?_
        refine me3 (pc' := 68) (S' := [.long (Int64.ofInt 121), .long (t1.2.1 41)]) dm_X12_read_65 rfl rfl rfl rfl ?_
        refine y_leq (x := t1.2.1 41) (y := Int64.ofInt 121) (t := 84) (pc1 := 69) (pc' := 72) dm_X12_read_68 rfl dm_X12_read_69 rfl rfl (fun hb7 => ?_) (fun hb7 => ?_)
        · have hb7i := congrArg Int64.toInt hb7
          rw [d41, e41, e121] at hb7i
          exfalso; omega
        · have hb7i : ¬ (t1.2.1 41).toInt = (Int64.ofInt 121).toInt := fun z => hb7 (Int64.toInt_inj.mp z)
          rw [d41, e41, e121] at hb7i
          refine me1 (pc' := 73) (L' := [(3, ii 0), (2, ii 1), (0, .ref 102), (1, ii (ln : Int))]) (S' := [ii 0]) dm_X12_read_72 rfl rfl rfl rfl ?_
          refine me_1t (pc' := 90) dm_X12_read_73 rfl (by decide) ?_
          refine pg_cast (h2 := rI pre post ((flS t1 56 (Int64.ofInt (tqR (T 0)))).1) ((flS t1 56 (Int64.ofInt (tqR (T 0)))).2.1) ((flS t1 56 (Int64.ofInt (tqR (T 0)))).2.2.1) ((flS t1 56 (Int64.ofInt (tqR (T 0)))).2.2.2)) (by unfold flS; rw [← d41]; try rfl) ?_
          refine me1 (pc' := 91) (L' := [(3, ii 0), (2, ii 1), (0, .ref 102), (1, ii (ln : Int))]) (S' := [.ref 102]) dm_X12_read_90 rfl rfl rfl rfl ?_
          refine x_cn (pc' := 94) (rest := []) dm_X12_read_91 rfl (q_inv (As := []) (S := []) hm rfl rfl rfl) rfl rfl rfl (r_nxt (s := (flS t1 56 (Int64.ofInt (tqR (T 0))))) (i := 0) hm (by omega) (RD_fl56 b1D) (by omega)) ?_
          rintro _ ⟨t3, rfl, k3, t3D⟩
          have F3 : rlF s t3 := rlF_tr F1 (rlF_tr (rlF_fl (Or.inr rfl)) (rlF_d (rdT_tk k3).1))
          have t356 : t3.2.1 56 = (Int64.ofInt (tqR (T 0))) := (k3.2.2.2 56 (by decide)).trans flS_at
          have t352 : t3.1 52 = -1 := (k3.2.2.1 52 (by decide)).trans c52
          have t351 : t3.1 51 = 0 := (k3.2.2.1 51 (by decide)).trans b151
          have t3_3 : t3.1 3 = s.1 3 := (k3.2.2.1 3 (by decide)).trans t1_3
          have t3_4 : t3.1 4 = s.1 4 := (k3.2.2.1 4 (by decide)).trans t1_4
          have t3_50 : t3.1 50 = s.1 50 := (k3.2.2.1 50 (by decide)).trans t1_50
          refine me1 (pc' := 95) (L' := [(3, ii 0), (2, ii 1), (0, .ref 102), (1, ii (ln : Int))]) (S' := [ii 1]) dm_X12_read_94 rfl rfl rfl rfl ?_
          refine me_1f (pc' := 98) dm_X12_read_95 rfl (by decide) rfl ?_
          refine me1 (pc' := 99) (L' := [(3, ii 0), (2, ii 1), (0, .ref 102), (1, ii (ln : Int))]) (S' := [.ref 102]) dm_X12_read_98 rfl rfl rfl rfl ?_
          refine x_cn (pc' := 102) (rest := []) dm_X12_read_99 rfl (q_inv (As := []) (S := []) hm rfl rfl rfl) rfl rfl rfl (r_nxt (s := t3) (i := 0 + 1) hm (by omega) t3D (by omega)) ?_
          rintro _ ⟨t4, rfl, k4, t4D⟩
          have F4 : rlF s t4 := rlF_tr F3 (rlF_d (rdT_tk k4).1)
          have t456 : t4.2.1 56 = (Int64.ofInt (tqR (T 0))) := (k4.2.2.2 56 (by decide)).trans t356
          have t452 : t4.1 52 = -1 := (k4.2.2.1 52 (by decide)).trans t352
          have t451 : t4.1 51 = 0 := (k4.2.2.1 51 (by decide)).trans t351
          have t4_3 : t4.1 3 = s.1 3 := (k4.2.2.1 3 (by decide)).trans t3_3
          have t4_4 : t4.1 4 = s.1 4 := (k4.2.2.1 4 (by decide)).trans t3_4
          have t4_50 : t4.1 50 = s.1 50 := (k4.2.2.1 50 (by decide)).trans t3_50
          refine me1 (pc' := 103) (L' := [(3, ii 0), (2, ii 1), (0, .ref 102), (1, ii (ln : Int))]) (S' := [.ref 102]) dm_X12_read_102 rfl rfl rfl rfl ?_
          refine me0 (pc' := 105) (S' := [ii 123, .ref 102]) dm_X12_read_103 rfl rfl rfl rfl ?_
          refine x_cp (pc' := 108) (v := zz (decide (isMk T (0 + 1 + 1) 123))) (rest := []) dm_X12_read_105 rfl (q_inv (As := [ii 123]) (S := []) hm rfl rfl rfl) rfl rfl rfl (r_mkd_ (i := 0 + 1 + 1) hm (by omega) hT hK t4D (by omega)) ?_
          refine pg_st (S' := [ii 0]) (congrArg (fun z => z :: []) (zf (h2m)).symm) ?_
          refine me_1t (pc' := 145) dm_X12_read_108 rfl (by decide) ?_
          refine me1 (pc' := 146) (L' := [(3, ii 0), (2, ii 1), (0, .ref 102), (1, ii (ln : Int))]) (S' := [.ref 102]) dm_X12_read_145 rfl rfl rfl rfl ?_
          refine me0 (pc' := 147) (S' := [ii 1, .ref 102]) dm_X12_read_146 rfl rfl rfl rfl ?_
          refine me3 (pc' := 150) (S' := []) (h1 := rI pre post (va_up t4.1 53 1) t4.2.1 t4.2.2.1 t4.2.2.2) dm_X12_read_147 (q_puti hm rfl rfl (fun m i l v => rf_53 m i l v)) rfl rfl rfl ?_
          refine pg_cast (h2 := rI pre post ((fiS t4 53 1).1) ((fiS t4 53 1).2.1) ((fiS t4 53 1).2.2.1) ((fiS t4 53 1).2.2.2)) rfl ?_
          refine me1 (pc' := 151) (L' := [(3, ii 0), (2, ii 1), (0, .ref 102), (1, ii (ln : Int))]) (S' := [.ref 102]) dm_X12_read_150 rfl rfl rfl rfl ?_
          refine me1 (pc' := 152) (L' := [(3, ii 0), (2, ii 1), (0, .ref 102), (1, ii (ln : Int))]) (S' := [.ref 102, .ref 102]) dm_X12_read_151 rfl rfl rfl rfl ?_
          have t4RM : RM T ln (fiS t4 53 1) 2 := RM_fi (by decide) (RM_eq hRM t4_3 t4_4 t4_50 (by omega))
          rcases eb : pR T fuR 0 0 2 with p_eb | j_eb
          · refine x_cv (pc' := 155) (rest := [.ref 102]) dm_X12_read_152 rfl (q_inv (As := []) (S := [.ref 102]) hm rfl rfl rfl) rfl rfl rfl (r_expr_ hm hT hK (hi := mk + 3) (by omega) hTX fuR _ (fiS t4 53 1) 2 0 (by omega) (RD_fi (by decide) t4D) t451 t452 t4RM (by omega) (by omega) (by omega)) ?_
            rintro x_t6 h_t6 hxt6
            obtain ⟨t6, t6v, rfl, rfl, t6R, t652, t6E⟩ := RQ_e eb hxt6
            have hplt6 := pR_ln hK _ _ _ _ _ eb
            have bd : 0 ≤ t6.1 52 ∧ t6.1 52 ≤ 1000 := by omega
            have F6 : rlF s t6 := rlF_tr (rlF_tr F4 (rlF_fi (k := 53) (x := 1) (by decide))) (rlF_d t6R)
            obtain ⟨t6a0, t6b0, t6c0⟩ := id t6E
            have t6a : t6.1 4 + _ ≤ t4.1 4 + _ := t6a0
            have t6b : t6.1 3 + _ ≤ t4.1 3 + _ := t6b0
            have t6c : t6.1 50 + _ ≤ t4.1 50 + _ := t6c0
            refine me3 (pc' := 158) (S' := []) (h1 := rI pre post (va_up t6.1 54 t6v) t6.2.1 t6.2.2.1 t6.2.2.2) dm_X12_read_155 (q_puti hm rfl rfl (fun m i l v => rf_54 m i l v)) rfl rfl rfl ?_
            refine pg_cast (h2 := rI pre post ((fiS t6 54 t6v).1) ((fiS t6 54 t6v).2.1) ((fiS t6 54 t6v).2.2.1) ((fiS t6 54 t6v).2.2.2)) rfl ?_
            refine me2 (pc' := 225) (S' := []) dm_X12_read_158 rfl rfl rfl ?_
            refine me1 (pc' := 226) (L' := [(3, ii 0), (2, ii 1), (0, .ref 102), (1, ii (ln : Int))]) (S' := [.ref 102]) dm_X12_read_225 rfl rfl rfl rfl ?_
            refine me3 (pc' := 229) (S' := [ii (((fiS t6 54 t6v).1) 52)]) dm_X12_read_226 (q_geti (v := ((fiS t6 54 t6v).1) 52) hm rfl (fun m i l => rg_52 m i l) rfl) rfl rfl rfl ?_
            refine y_1ge (a := ((fiS t6 54 t6v).1) 52) (t := 244) (pc' := 232) dm_X12_read_229 rfl rfl (by rw [fi_k (by decide)]; omega) (fun hb8 => ?_) (fun hb8 => ?_)
            · refine y_ret (r := none) dm_X12_read_244 rfl rfl rfl ?_
              exact ⟨rfl, RRL_e (liR_x (liA_1 hw hls) (liX_en (by omega) eb)) (rlF_tr F6 (rlF_fi (k := 54) (x := t6v) (by decide))) (by rw [fi_k (by decide)]; omega) (by rw [fi_k (by decide)]; omega) (by rw [fi_k (by decide)]; omega) (by rw [fi_k (by decide)]; omega)⟩
            · exfalso; rw [fi_k (by decide)] at hb8; omega
          · refine x_cv (pc' := 155) (rest := [.ref 102]) dm_X12_read_152 rfl (q_inv (As := []) (S := [.ref 102]) hm rfl rfl rfl) rfl rfl rfl (r_expr_ hm hT hK (hi := mk + 3) (by omega) hTX fuR _ (fiS t4 53 1) 2 0 (by omega) (RD_fi (by decide) t4D) t451 t452 t4RM (by omega) (by omega) (by omega)) ?_
            rintro x_t6 h_t6 hxt6
            obtain ⟨t6, rfl, t6R, t6D, t651, t652, t6M, neb, Beb, rfl, t6p, t6q, t6B, t6C⟩ := RQ_v eb hxt6
            have t6M : RMd T (fiS t4 53 1) t6 2 j_eb 0 (-1) := t6M
            have hjeb := pR_mk hK _ 0 _ _ _ (show 2 ≤ mk by omega) eb
            have hjjeb := hjeb.2.2 (by decide)
            have P_eb := P_ln hK j_eb
            have F6 : rlF s t6 := rlF_tr (rlF_tr F4 (rlF_fi (k := 53) (x := 1) (by decide))) (rlF_d t6R)
            have t6p : t4.1 50 ≤ _ := t6p
            obtain ⟨t6a0, t6b0, t6c0⟩ := id t6M
            have t6a : t6.1 4 + _ ≤ t4.1 4 + _ := t6a0
            have t6b : t6.1 3 + _ ≤ t4.1 3 + _ := t6b0
            have t6c : t6.1 50 + _ + _ ≤ t4.1 50 + _ ∧ 2 * t6.1 4 + _ + _ ≤ 2 * t4.1 4 + _ := t6c0
            have t638 : t6.1 38 = ((tqS (T j_eb) : Nat) : Int) := by rw [hT]; exact (RD_38 t6D).1
            have t639 : t6.1 39 = ((tqP (T j_eb) : Nat) : Int) := by rw [hT]; exact (RD_38 t6D).2
            have t68 : tqS (T j_eb) ≤ 8 := by rw [hT]; exact tkI_8
            refine me3 (pc' := 158) (S' := []) (h1 := rI pre post (va_up t6.1 54 (neb : Int)) t6.2.1 t6.2.2.1 t6.2.2.2) dm_X12_read_155 (q_puti hm rfl rfl (fun m i l v => rf_54 m i l v)) rfl rfl rfl ?_
            refine pg_cast (h2 := rI pre post ((fiS t6 54 (neb : Int)).1) ((fiS t6 54 (neb : Int)).2.1) ((fiS t6 54 (neb : Int)).2.2.1) ((fiS t6 54 (neb : Int)).2.2.2)) rfl ?_
            refine me2 (pc' := 225) (S' := []) dm_X12_read_158 rfl rfl rfl ?_
            refine me1 (pc' := 226) (L' := [(3, ii 0), (2, ii 1), (0, .ref 102), (1, ii (ln : Int))]) (S' := [.ref 102]) dm_X12_read_225 rfl rfl rfl rfl ?_
            refine me3 (pc' := 229) (S' := [ii (((fiS t6 54 (neb : Int)).1) 52)]) dm_X12_read_226 (q_geti (v := ((fiS t6 54 (neb : Int)).1) 52) hm rfl (fun m i l => rg_52 m i l) rfl) rfl rfl rfl ?_
            refine y_1ge (a := ((fiS t6 54 (neb : Int)).1) 52) (t := 244) (pc' := 232) dm_X12_read_229 rfl rfl (by rw [fi_k (by decide)]; omega) (fun hb9 => ?_) (fun hb9 => ?_)
            · exfalso; rw [fi_k (by decide)] at hb9; omega
            · refine me1 (pc' := 233) (L' := [(3, ii 0), (2, ii 1), (0, .ref 102), (1, ii (ln : Int))]) (S' := [.ref 102]) dm_X12_read_232 rfl rfl rfl rfl ?_
              refine me3 (pc' := 236) (S' := [ii (((fiS t6 54 (neb : Int)).1) 38)]) dm_X12_read_233 (q_geti (v := ((fiS t6 54 (neb : Int)).1) 38) hm rfl (fun m i l => rg_38 m i l) rfl) rfl rfl rfl ?_
              refine y_1eq (a := ((fiS t6 54 (neb : Int)).1) 38) (t := 244) (pc' := 239) dm_X12_read_236 rfl rfl (by rw [fi_k (by decide)]; omega) (fun hb10 => ?_) (fun hb10 => ?_)
              · rw [fi_k (by decide)] at hb10
                refine y_ret (r := none) dm_X12_read_244 rfl rfl rfl ?_
                have h653 : t6.1 53 = 1 := (t6R.2.2.1 53 (by decide)).trans fi_at
                have h656 : t6.2.1 56 = (Int64.ofInt (tqR (T 0))) := (t6R.2.2.2.1 56 (by decide)).trans t456
                exact ⟨rfl, RRL_v (o := 0) (rt := neb) (B := Beb) (liR_v (liA_1 hw hls) ((liX_vn (by omega) eb).trans (liE_0 (by omega)))) (rlF_tr F6 (rlF_fi (k := 54) (x := (neb : Int)) (by decide))) (by rw [fi_k (by decide)]; omega) (by rw [fi_k (by decide)]; omega) (by rw [fi_k (by decide)]; omega) ((fi_k (by decide)).trans t652) ((fi_k (by decide)).trans (h653.trans hlz.symm)) (fun _ => h656) fi_at ((fi_k (by decide)).trans t6B) (by omega) t6q (by rw [hls]; rfl) (rR_k _ _ _ _ _ _ _ _ _ _ (ndK_fi (by decide)) (Nat.le_refl _) t6C) (fun z => by omega) (by rw [fi_k (by decide)]; omega)⟩
              · rw [fi_k (by decide)] at hb10
                refine me1 (pc' := 240) (L' := [(3, ii 0), (2, ii 1), (0, .ref 102), (1, ii (ln : Int))]) (S' := [.ref 102]) dm_X12_read_239 rfl rfl rfl rfl ?_
                refine x_cv (pc' := 243) (rest := []) dm_X12_read_240 rfl (q_inv (As := []) (S := []) hm rfl rfl rfl) rfl rfl rfl (r_wrong_ (s := (fiS t6 54 (neb : Int))) hm (by omega) (by rw [fi_k (by decide)]; omega)) ?_
                rintro _ _ ⟨rfl, rfl⟩
                refine me0 (pc' := 244) (S' := []) dm_X12_read_243 rfl rfl rfl rfl ?_
                refine y_ret (r := none) dm_X12_read_244 rfl rfl rfl ?_
                exact ⟨rfl, RRL_e (liR_x (liA_1 hw hls) ((liX_vn (by omega) eb).trans (liE_1 (by omega)))) (rlF_tr (rlF_tr F6 (rlF_fi (k := 54) (x := (neb : Int)) (by decide))) (rlF_d (rdT_wr _).1)) (by rw [(rdT_wr _).2.2.1]; rw [fi_k (by decide)]; omega) (by rw [(rdT_wr _).2.1]; rw [fi_k (by decide)]; omega) (by rw [(rdT_wr _).2.2.2.1]; rw [fi_k (by decide)]; omega) ((wr_52 (by rw [fi_k (by decide)]; omega)).trans ((fi_k (by decide)).trans t639))⟩
  · have hlz : ((liS T : Nat) : Int) = 2 := by rw [hls]; rfl
    have h2m := liS_2 hls
    have hmk3 := TOKS_lt hK (i := 2) (by have := h2m.1; omega)
    have hnm := liS_nm (T := T) (by omega)
    obtain ⟨hRr, hox, hoy⟩ := (show _ ∧ _ ∧ _ by have z := hnm; rw [hT] at z; have y := nm_own z; rw [← hT] at y; exact y)
    have e41 : (Int64.ofInt (tqR (T 0))).toInt = tqR (T 0) := n_toL (by omega) (by omega)
    have P01 := P_le hK (i := 0) (j := 1) (by omega) (by omega)
    have P02 := P_le hK (i := 0) (j := 2) (by omega) (by omega)
    have P03 := P_le hK (i := 0) (j := 3) (by omega) (by omega)
    by_cases hw : liW T
    · refine x_cn (pc' := 5) (rest := []) dm_X12_read_2 rfl (q_inv (As := [ii (ln : Int)]) (S := []) hm rfl rfl rfl) rfl rfl rfl (r_begin_ (s := s) (hi := 2) hm (by omega) hTN (fun j hj => hF0 j hj)) ?_
      rintro _ ⟨t0, rfl, b0D, b051, b052, b042, b0F⟩
      have b0q : (fiS t0 53 0).2.2.2 = s.2.2.2 := by show t0.2.2.2 = _; rw [b0F.1]
      refine me1 (pc' := 6) (L' := [(0, .ref 102), (1, ii (ln : Int))]) (S' := [.ref 102]) dm_X12_read_5 rfl rfl rfl rfl ?_
      refine me0 (pc' := 7) (S' := [ii 0, .ref 102]) dm_X12_read_6 rfl rfl rfl rfl ?_
      refine me3 (pc' := 10) (S' := []) (h1 := rI pre post (va_up t0.1 53 0) t0.2.1 t0.2.2.1 t0.2.2.2) dm_X12_read_7 (q_puti hm rfl rfl (fun m i l v => rf_53 m i l v)) rfl rfl rfl ?_
      refine pg_cast (h2 := rI pre post ((fiS t0 53 0).1) ((fiS t0 53 0).2.1) ((fiS t0 53 0).2.2.1) ((fiS t0 53 0).2.2.2)) rfl ?_
      refine me1 (pc' := 11) (L' := [(0, .ref 102), (1, ii (ln : Int))]) (S' := [.ref 102]) dm_X12_read_10 rfl rfl rfl rfl ?_
      refine me1 (pc' := 12) (L' := [(0, .ref 102), (1, ii (ln : Int))]) (S' := [ii (ln : Int), .ref 102]) dm_X12_read_11 rfl rfl rfl rfl ?_
      refine x_cv (pc' := 15) (rest := []) dm_X12_read_12 rfl (q_inv (As := [ii (ln : Int)]) (S := []) hm rfl rfl rfl) rfl rfl rfl (r_isNaming_ (s := fiS t0 53 0) (hi := 2) (hi2 := 2) hm (by omega) hT hK (TN_fi (by decide) (TN_k b0F hTN)) (RD_fi (by decide) b0D) (fun j hj => FN_b b0q ((fun j hj => hF0 j hj) j hj)) (by omega)) ?_
      rintro _ _ ⟨rfl, t1, rfl, b1D, b151, b152, b142, b1F⟩
      have F1 : rlF s t1 := rlF_tr (rlF_b b0F) (rlF_tr (rlF_fi (by decide)) (rlF_b b1F))
      have t1_3 : t1.1 3 = s.1 3 := (b1F.2.1 3 (by decide)).trans ((fi_k (by decide)).trans (b0F.2.1 3 (by decide)))
      have t1_4 : t1.1 4 = s.1 4 := (b1F.2.1 4 (by decide)).trans ((fi_k (by decide)).trans (b0F.2.1 4 (by decide)))
      have t1_50 : t1.1 50 = s.1 50 := (b1F.2.1 50 (by decide)).trans ((fi_k (by decide)).trans (b0F.2.1 50 (by decide)))
      refine pg_st (S' := [ii 1]) (congrArg (fun z => z :: []) (zt (liS_na.mpr (by omega))).symm) ?_
      refine me1 (pc' := 16) (L' := [(2, ii 1), (0, .ref 102), (1, ii (ln : Int))]) (S' := []) dm_X12_read_15 rfl rfl rfl rfl ?_
      refine me1 (pc' := 17) (L' := [(2, ii 1), (0, .ref 102), (1, ii (ln : Int))]) (S' := [ii 1]) dm_X12_read_16 rfl rfl rfl rfl ?_
      refine me_1t (pc' := 32) dm_X12_read_17 rfl (by decide) ?_
      refine me0 (pc' := 33) (S' := [ii 0]) dm_X12_read_32 rfl rfl rfl rfl ?_
      refine me1 (pc' := 34) (L' := [(3, ii 0), (2, ii 1), (0, .ref 102), (1, ii (ln : Int))]) (S' := []) dm_X12_read_33 rfl rfl rfl rfl ?_
      refine me1 (pc' := 35) (L' := [(3, ii 0), (2, ii 1), (0, .ref 102), (1, ii (ln : Int))]) (S' := [ii 1]) dm_X12_read_34 rfl rfl rfl rfl ?_
      refine me_1t (pc' := 42) dm_X12_read_35 rfl (by decide) ?_
      have d41 : t1.2.1 41 = (Int64.ofInt (tqR (T 0))) := by rw [hT]; exact RD_dn b1D (by rw [← hT]; exact hnm)
      have c38 : t1.1 38 = ((tqS (T 0) : Nat) : Int) := by rw [hT]; exact (RD_38 b1D).1
      have c39 : t1.1 39 = ((tqP (T 0) : Nat) : Int) := by rw [hT]; exact (RD_38 b1D).2
      have c52 : t1.1 52 = -1 := b152
      refine me1 (pc' := 43) (L' := [(3, ii 0), (2, ii 1), (0, .ref 102), (1, ii (ln : Int))]) (S' := [.ref 102]) dm_X12_read_42 rfl rfl rfl rfl ?_
      refine me1 (pc' := 44) (L' := [(3, ii 0), (2, ii 1), (0, .ref 102), (1, ii (ln : Int))]) (S' := [.ref 102, .ref 102]) dm_X12_read_43 rfl rfl rfl rfl ?_
      refine me3 (pc' := 47) (S' := [.long (t1.2.1 41), .ref 102]) dm_X12_read_44 (q_getl (v := t1.2.1 41) hm rfl (fun m i l => rg_41 m i l) rfl) rfl rfl rfl ?_
      refine me3 (pc' := 50) (S' := []) (h1 := rI pre post t1.1 (va_up t1.2.1 56 (t1.2.1 41)) t1.2.2.1 t1.2.2.2) dm_X12_read_47 (q_putl hm rfl rfl (fun m i l v => rf_56 m i l v)) rfl rfl rfl ?_
      refine me1 (pc' := 51) (L' := [(3, ii 0), (2, ii 1), (0, .ref 102), (1, ii (ln : Int))]) (S' := [.ref 102]) dm_X12_read_50 rfl rfl rfl rfl ?_
      refine me3 (pc' := 54) (S' := [.long (t1.2.1 41)]) dm_X12_read_51 (q_getl (v := t1.2.1 41) hm rfl (fun m i l => rg_56 m i l) rfl) rfl rfl rfl ?_
      refine me3 (pc' := 57) (S' := [.long (Int64.ofInt 120), .long (t1.2.1 41)]) dm_X12_read_54 rfl rfl rfl rfl ?_
      refine y_leq (x := t1.2.1 41) (y := Int64.ofInt 120) (t := 84) (pc1 := 58) (pc' := 61) dm_X12_read_57 rfl dm_X12_read_58 rfl rfl (fun hb11 => ?_) (fun hb11 => ?_)
      · have hb11i := congrArg Int64.toInt hb11
        rw [d41, e41, e120] at hb11i
        refine me1 (pc' := 85) (L' := [(3, ii 0), (2, ii 1), (0, .ref 102), (1, ii (ln : Int))]) (S' := [.ref 102]) dm_X12_read_84 rfl rfl rfl rfl ?_
        refine x_cv (pc' := 88) (rest := []) dm_X12_read_85 rfl (q_inv (As := []) (S := []) hm rfl rfl rfl) rfl rfl rfl (r_wrong_ (s := (t1.1, va_up t1.2.1 56 (t1.2.1 41), t1.2.2.1, t1.2.2.2)) hm (by omega) (by show -2147483648 ≤ t1.1 52 ∧ t1.1 52 ≤ 2147483647; omega)) ?_
        rintro _ _ ⟨rfl, rfl⟩
        refine me0 (pc' := 89) (S' := []) dm_X12_read_88 rfl rfl rfl rfl ?_
        refine y_ret (r := none) dm_X12_read_89 rfl rfl rfl ?_
        have fw : rlF s (t1.1, va_up t1.2.1 56 (t1.2.1 41), t1.2.2.1, t1.2.2.2) := rlF_tr F1 (rlF_fl (k := 56) (Or.inr rfl))
        exact ⟨rfl, RRL_e (liR_a (liA_w hw)) (rlF_tr fw (rlF_d (rdT_wr _).1)) (by rw [(rdT_wr _).2.2.1]; show t1.1 4 ≤ _; omega) (by rw [(rdT_wr _).2.1]; show t1.1 3 ≤ _; omega) (by rw [(rdT_wr _).2.2.2.1]; show t1.1 50 ≤ _; omega) ((wr_52 (by show t1.1 52 < 0; omega)).trans c39)⟩
      · have hb11i : ¬ (t1.2.1 41).toInt = (Int64.ofInt 120).toInt := fun z => hb11 (Int64.toInt_inj.mp z)
        rw [d41, e41, e120] at hb11i
        refine me1 (pc' := 62) (L' := [(3, ii 0), (2, ii 1), (0, .ref 102), (1, ii (ln : Int))]) (S' := [.ref 102]) dm_X12_read_61 rfl rfl rfl rfl ?_
        refine me3 (pc' := 65) (S' := [.long (t1.2.1 41)]) dm_X12_read_62 (q_getl (v := t1.2.1 41) hm rfl (fun m i l => rg_56 m i l) rfl) rfl rfl rfl ?_
        refine me3 (pc' := 68) (S' := [.long (Int64.ofInt 121), .long (t1.2.1 41)]) dm_X12_read_65 rfl rfl rfl rfl ?_
        refine y_leq (x := t1.2.1 41) (y := Int64.ofInt 121) (t := 84) (pc1 := 69) (pc' := 72) dm_X12_read_68 rfl dm_X12_read_69 rfl rfl (fun hb12 => ?_) (fun hb12 => ?_)
        · have hb12i := congrArg Int64.toInt hb12
          rw [d41, e41, e121] at hb12i
          refine me1 (pc' := 85) (L' := [(3, ii 0), (2, ii 1), (0, .ref 102), (1, ii (ln : Int))]) (S' := [.ref 102]) dm_X12_read_84 rfl rfl rfl rfl ?_
          refine x_cv (pc' := 88) (rest := []) dm_X12_read_85 rfl (q_inv (As := []) (S := []) hm rfl rfl rfl) rfl rfl rfl (r_wrong_ (s := (t1.1, va_up t1.2.1 56 (t1.2.1 41), t1.2.2.1, t1.2.2.2)) hm (by omega) (by show -2147483648 ≤ t1.1 52 ∧ t1.1 52 ≤ 2147483647; omega)) ?_
          rintro _ _ ⟨rfl, rfl⟩
          refine me0 (pc' := 89) (S' := []) dm_X12_read_88 rfl rfl rfl rfl ?_
          refine y_ret (r := none) dm_X12_read_89 rfl rfl rfl ?_
          have fw : rlF s (t1.1, va_up t1.2.1 56 (t1.2.1 41), t1.2.2.1, t1.2.2.2) := rlF_tr F1 (rlF_fl (k := 56) (Or.inr rfl))
          exact ⟨rfl, RRL_e (liR_a (liA_w hw)) (rlF_tr fw (rlF_d (rdT_wr _).1)) (by rw [(rdT_wr _).2.2.1]; show t1.1 4 ≤ _; omega) (by rw [(rdT_wr _).2.1]; show t1.1 3 ≤ _; omega) (by rw [(rdT_wr _).2.2.2.1]; show t1.1 50 ≤ _; omega) ((wr_52 (by show t1.1 52 < 0; omega)).trans c39)⟩
        · have hb12i : ¬ (t1.2.1 41).toInt = (Int64.ofInt 121).toInt := fun z => hb12 (Int64.toInt_inj.mp z)
          rw [d41, e41, e121] at hb12i
          exfalso; omega
    · refine x_cn (pc' := 5) (rest := []) dm_X12_read_2 rfl (q_inv (As := [ii (ln : Int)]) (S := []) hm rfl rfl rfl) rfl rfl rfl (r_begin_ (s := s) (hi := 2) hm (by omega) hTN (fun j hj => hF0 j hj)) ?_
      rintro _ ⟨t0, rfl, b0D, b051, b052, b042, b0F⟩
      have b0q : (fiS t0 53 0).2.2.2 = s.2.2.2 := by show t0.2.2.2 = _; rw [b0F.1]
      refine me1 (pc' := 6) (L' := [(0, .ref 102), (1, ii (ln : Int))]) (S' := [.ref 102]) dm_X12_read_5 rfl rfl rfl rfl ?_
      refine me0 (pc' := 7) (S' := [ii 0, .ref 102]) dm_X12_read_6 rfl rfl rfl rfl ?_
      refine me3 (pc' := 10) (S' := []) (h1 := rI pre post (va_up t0.1 53 0) t0.2.1 t0.2.2.1 t0.2.2.2) dm_X12_read_7 (q_puti hm rfl rfl (fun m i l v => rf_53 m i l v)) rfl rfl rfl ?_
      refine pg_cast (h2 := rI pre post ((fiS t0 53 0).1) ((fiS t0 53 0).2.1) ((fiS t0 53 0).2.2.1) ((fiS t0 53 0).2.2.2)) rfl ?_
      refine me1 (pc' := 11) (L' := [(0, .ref 102), (1, ii (ln : Int))]) (S' := [.ref 102]) dm_X12_read_10 rfl rfl rfl rfl ?_
      refine me1 (pc' := 12) (L' := [(0, .ref 102), (1, ii (ln : Int))]) (S' := [ii (ln : Int), .ref 102]) dm_X12_read_11 rfl rfl rfl rfl ?_
      refine x_cv (pc' := 15) (rest := []) dm_X12_read_12 rfl (q_inv (As := [ii (ln : Int)]) (S := []) hm rfl rfl rfl) rfl rfl rfl (r_isNaming_ (s := fiS t0 53 0) (hi := 2) (hi2 := 2) hm (by omega) hT hK (TN_fi (by decide) (TN_k b0F hTN)) (RD_fi (by decide) b0D) (fun j hj => FN_b b0q ((fun j hj => hF0 j hj) j hj)) (by omega)) ?_
      rintro _ _ ⟨rfl, t1, rfl, b1D, b151, b152, b142, b1F⟩
      have F1 : rlF s t1 := rlF_tr (rlF_b b0F) (rlF_tr (rlF_fi (by decide)) (rlF_b b1F))
      have t1_3 : t1.1 3 = s.1 3 := (b1F.2.1 3 (by decide)).trans ((fi_k (by decide)).trans (b0F.2.1 3 (by decide)))
      have t1_4 : t1.1 4 = s.1 4 := (b1F.2.1 4 (by decide)).trans ((fi_k (by decide)).trans (b0F.2.1 4 (by decide)))
      have t1_50 : t1.1 50 = s.1 50 := (b1F.2.1 50 (by decide)).trans ((fi_k (by decide)).trans (b0F.2.1 50 (by decide)))
      refine pg_st (S' := [ii 1]) (congrArg (fun z => z :: []) (zt (liS_na.mpr (by omega))).symm) ?_
      refine me1 (pc' := 16) (L' := [(2, ii 1), (0, .ref 102), (1, ii (ln : Int))]) (S' := []) dm_X12_read_15 rfl rfl rfl rfl ?_
      refine me1 (pc' := 17) (L' := [(2, ii 1), (0, .ref 102), (1, ii (ln : Int))]) (S' := [ii 1]) dm_X12_read_16 rfl rfl rfl rfl ?_
      refine me_1t (pc' := 32) dm_X12_read_17 rfl (by decide) ?_
      refine me0 (pc' := 33) (S' := [ii 0]) dm_X12_read_32 rfl rfl rfl rfl ?_
      refine me1 (pc' := 34) (L' := [(3, ii 0), (2, ii 1), (0, .ref 102), (1, ii (ln : Int))]) (S' := []) dm_X12_read_33 rfl rfl rfl rfl ?_
      refine me1 (pc' := 35) (L' := [(3, ii 0), (2, ii 1), (0, .ref 102), (1, ii (ln : Int))]) (S' := [ii 1]) dm_X12_read_34 rfl rfl rfl rfl ?_
      refine me_1t (pc' := 42) dm_X12_read_35 rfl (by decide) ?_
      have d41 : t1.2.1 41 = (Int64.ofInt (tqR (T 0))) := by rw [hT]; exact RD_dn b1D (by rw [← hT]; exact hnm)
      have c38 : t1.1 38 = ((tqS (T 0) : Nat) : Int) := by rw [hT]; exact (RD_38 b1D).1
      have c39 : t1.1 39 = ((tqP (T 0) : Nat) : Int) := by rw [hT]; exact (RD_38 b1D).2
      have c52 : t1.1 52 = -1 := b152
      refine me1 (pc' := 43) (L' := [(3, ii 0), (2, ii 1), (0, .ref 102), (1, ii (ln : Int))]) (S' := [.ref 102]) dm_X12_read_42 rfl rfl rfl rfl ?_
      refine me1 (pc' := 44) (L' := [(3, ii 0), (2, ii 1), (0, .ref 102), (1, ii (ln : Int))]) (S' := [.ref 102, .ref 102]) dm_X12_read_43 rfl rfl rfl rfl ?_
      refine me3 (pc' := 47) (S' := [.long (t1.2.1 41), .ref 102]) dm_X12_read_44 (q_getl (v := t1.2.1 41) hm rfl (fun m i l => rg_41 m i l) rfl) rfl rfl rfl ?_
      refine me3 (pc' := 50) (S' := []) (h1 := rI pre post t1.1 (va_up t1.2.1 56 (t1.2.1 41)) t1.2.2.1 t1.2.2.2) dm_X12_read_47 (q_putl hm rfl rfl (fun m i l v => rf_56 m i l v)) rfl rfl rfl ?_
      refine me1 (pc' := 51) (L' := [(3, ii 0), (2, ii 1), (0, .ref 102), (1, ii (ln : Int))]) (S' := [.ref 102]) dm_X12_read_50 rfl rfl rfl rfl ?_
      refine me3 (pc' := 54) (S' := [.long (t1.2.1 41)]) dm_X12_read_51 (q_getl (v := t1.2.1 41) hm rfl (fun m i l => rg_56 m i l) rfl) rfl rfl rfl ?_
      refine me3 (pc' := 57) (S' := [.long (Int64.ofInt 120), .long (t1.2.1 41)]) dm_X12_read_54 rfl rfl rfl rfl ?_
      refine y_leq (x := t1.2.1 41) (y := Int64.ofInt 120) (t := 84) (pc1 := 58) (pc' := 61) dm_X12_read_57 rfl dm_X12_read_58 rfl rfl (fun hb13 => ?_) (fun hb13 => ?_)
      · have hb13i := congrArg Int64.toInt hb13
        rw [d41, e41, e120] at hb13i
        exfalso; omega
      · have hb13i : ¬ (t1.2.1 41).toInt = (Int64.ofInt 120).toInt := fun z => hb13 (Int64.toInt_inj.mp z)
        rw [d41, e41, e120] at hb13i
        refine me1 (pc' := 62) (L' := [(3, ii 0), (2, ii 1), (0, .ref 102), (1, ii (ln : Int))]) (S' := [.ref 102]) dm_X12_read_61 rfl rfl rfl rfl ?_
        refine me3 (pc' := 65) (S' := [.long (t1.2.1 41)]) dm_X12_read_62 (q_getl (v := t1.2.1 41) hm rfl (fun m i l => rg_56 m i l) rfl) rfl rfl rfl ?_
        refine me3 (pc' := 68) (S' := [.long (Int64.ofInt 121), .long (t1.2.1 41)]) dm_X12_read_65 rfl rfl rfl rfl ?_
        refine y_leq (x := t1.2.1 41) (y := Int64.ofInt 121) (t := 84) (pc1 := 69) (pc' := 72) dm_X12_read_68 rfl dm_X12_read_69 rfl rfl (fun hb14 => ?_) (fun hb14 => ?_)
        · have hb14i := congrArg Int64.toInt hb14
          rw [d41, e41, e121] at hb14i
          exfalso; omega
        · have hb14i : ¬ (t1.2.1 41).toInt = (Int64.ofInt 121).toInt := fun z => hb14 (Int64.toInt_inj.mp z)
          rw [d41, e41, e121] at hb14i
          refine me1 (pc' := 73) (L' := [(3, ii 0), (2, ii 1), (0, .ref 102), (1, ii (ln : Int))]) (S' := [ii 0]) dm_X12_read_72 rfl rfl rfl rfl ?_
          refine me_1t (pc' := 90) dm_X12_read_73 rfl (by decide) ?_
          refine pg_cast (h2 := rI pre post ((flS t1 56 (Int64.ofInt (tqR (T 0)))).1) ((flS t1 56 (Int64.ofInt (tqR (T 0)))).2.1) ((flS t1 56 (Int64.ofInt (tqR (T 0)))).2.2.1) ((flS t1 56 (Int64.ofInt (tqR (T 0)))).2.2.2)) (by unfold flS; rw [← d41]; try rfl) ?_
          refine me1 (pc' := 91) (L' := [(3, ii 0), (2, ii 1), (0, .ref 102), (1, ii (ln : Int))]) (S' := [.ref 102]) dm_X12_read_90 rfl rfl rfl rfl ?_
          refine x_cn (pc' := 94) (rest := []) dm_X12_read_91 rfl (q_inv (As := []) (S := []) hm rfl rfl rfl) rfl rfl rfl (r_nxt (s := (flS t1 56 (Int64.ofInt (tqR (T 0))))) (i := 0) hm (by omega) (RD_fl56 b1D) (by omega)) ?_
          rintro _ ⟨t3, rfl, k3, t3D⟩
          have F3 : rlF s t3 := rlF_tr F1 (rlF_tr (rlF_fl (Or.inr rfl)) (rlF_d (rdT_tk k3).1))
          have t356 : t3.2.1 56 = (Int64.ofInt (tqR (T 0))) := (k3.2.2.2 56 (by decide)).trans flS_at
          have t352 : t3.1 52 = -1 := (k3.2.2.1 52 (by decide)).trans c52
          have t351 : t3.1 51 = 0 := (k3.2.2.1 51 (by decide)).trans b151
          have t3_3 : t3.1 3 = s.1 3 := (k3.2.2.1 3 (by decide)).trans t1_3
          have t3_4 : t3.1 4 = s.1 4 := (k3.2.2.1 4 (by decide)).trans t1_4
          have t3_50 : t3.1 50 = s.1 50 := (k3.2.2.1 50 (by decide)).trans t1_50
          refine me1 (pc' := 95) (L' := [(3, ii 0), (2, ii 1), (0, .ref 102), (1, ii (ln : Int))]) (S' := [ii 1]) dm_X12_read_94 rfl rfl rfl rfl ?_
          refine me_1f (pc' := 98) dm_X12_read_95 rfl (by decide) rfl ?_
          refine me1 (pc' := 99) (L' := [(3, ii 0), (2, ii 1), (0, .ref 102), (1, ii (ln : Int))]) (S' := [.ref 102]) dm_X12_read_98 rfl rfl rfl rfl ?_
          refine x_cn (pc' := 102) (rest := []) dm_X12_read_99 rfl (q_inv (As := []) (S := []) hm rfl rfl rfl) rfl rfl rfl (r_nxt (s := t3) (i := 0 + 1) hm (by omega) t3D (by omega)) ?_
          rintro _ ⟨t4, rfl, k4, t4D⟩
          have F4 : rlF s t4 := rlF_tr F3 (rlF_d (rdT_tk k4).1)
          have t456 : t4.2.1 56 = (Int64.ofInt (tqR (T 0))) := (k4.2.2.2 56 (by decide)).trans t356
          have t452 : t4.1 52 = -1 := (k4.2.2.1 52 (by decide)).trans t352
          have t451 : t4.1 51 = 0 := (k4.2.2.1 51 (by decide)).trans t351
          have t4_3 : t4.1 3 = s.1 3 := (k4.2.2.1 3 (by decide)).trans t3_3
          have t4_4 : t4.1 4 = s.1 4 := (k4.2.2.1 4 (by decide)).trans t3_4
          have t4_50 : t4.1 50 = s.1 50 := (k4.2.2.1 50 (by decide)).trans t3_50
          refine me1 (pc' := 103) (L' := [(3, ii 0), (2, ii 1), (0, .ref 102), (1, ii (ln : Int))]) (S' := [.ref 102]) dm_X12_read_102 rfl rfl rfl rfl ?_
          refine me0 (pc' := 105) (S' := [ii 123, .ref 102]) dm_X12_read_103 rfl rfl rfl rfl ?_
          refine x_cp (pc' := 108) (v := zz (decide (isMk T (0 + 1 + 1) 123))) (rest := []) dm_X12_read_105 rfl (q_inv (As := [ii 123]) (S := []) hm rfl rfl rfl) rfl rfl rfl (r_mkd_ (i := 0 + 1 + 1) hm (by omega) hT hK t4D (by omega)) ?_
          refine pg_st (S' := [ii 1]) (congrArg (fun z => z :: []) (zt (h2m)).symm) ?_
          refine me_1f (pc' := 111) dm_X12_read_108 rfl (by decide) rfl ?_
          refine me1 (pc' := 112) (L' := [(3, ii 0), (2, ii 1), (0, .ref 102), (1, ii (ln : Int))]) (S' := [.ref 102]) dm_X12_read_111 rfl rfl rfl rfl ?_
          refine me0 (pc' := 113) (S' := [ii 2, .ref 102]) dm_X12_read_112 rfl rfl rfl rfl ?_
          refine me3 (pc' := 116) (S' := []) (h1 := rI pre post (va_up t4.1 53 2) t4.2.1 t4.2.2.1 t4.2.2.2) dm_X12_read_113 (q_puti hm rfl rfl (fun m i l v => rf_53 m i l v)) rfl rfl rfl ?_
          refine me1 (pc' := 117) (L' := [(3, ii 0), (2, ii 1), (0, .ref 102), (1, ii (ln : Int))]) (S' := [.ref 102]) dm_X12_read_116 rfl rfl rfl rfl ?_
          refine me1 (pc' := 118) (L' := [(3, ii 0), (2, ii 1), (0, .ref 102), (1, ii (ln : Int))]) (S' := [.ref 102, .ref 102]) dm_X12_read_117 rfl rfl rfl rfl ?_
          refine me3 (pc' := 121) (S' := [.long (t4.2.1 56), .ref 102]) dm_X12_read_118 (q_getl (v := t4.2.1 56) hm rfl (fun m i l => rg_56 m i l) rfl) rfl rfl rfl ?_
          refine me3 (pc' := 124) (S' := []) (h1 := rI pre post (va_up t4.1 53 2) (va_up t4.2.1 42 (t4.2.1 56)) t4.2.2.1 t4.2.2.2) dm_X12_read_121 (q_putl hm rfl rfl (fun m i l v => rf_42 m i l v)) rfl rfl rfl ?_
          refine pg_cast (h2 := rI pre post ((flS (fiS t4 53 2) 42 (Int64.ofInt (tqR (T 0)))).1) ((flS (fiS t4 53 2) 42 (Int64.ofInt (tqR (T 0)))).2.1) ((flS (fiS t4 53 2) 42 (Int64.ofInt (tqR (T 0)))).2.2.1) ((flS (fiS t4 53 2) 42 (Int64.ofInt (tqR (T 0)))).2.2.2)) (by unfold flS fiS; rw [← t456]; try rfl) ?_
          refine me1 (pc' := 125) (L' := [(3, ii 0), (2, ii 1), (0, .ref 102), (1, ii (ln : Int))]) (S' := [.ref 102]) dm_X12_read_124 rfl rfl rfl rfl ?_
          refine x_cn (pc' := 128) (rest := []) dm_X12_read_125 rfl (q_inv (As := []) (S := []) hm rfl rfl rfl) rfl rfl rfl (r_opensT (s := (flS (fiS t4 53 2) 42 (Int64.ofInt (tqR (T 0))))) (i := 2) (o := 0) (hi := mk + 3) hm (by omega) hT hK (RD_fl42 (hi2 := mk + 3) (RD_fi (by decide) t4D) (fun q h1 h2 => FNp_k (s := teS s (Int64.ofInt (tqR (T 0)))) (by show t4.2.2.2 20 = s.2.2.2 20; rw [F4.2.2.2.2.2.1 20 (by decide) (by decide)]) rfl (hF2 hls hw q (by omega)))) t451 (by decide) (by omega)) ?_
          rintro _ ⟨t5, rfl, k5, t5D, t551, t552a⟩
          have t553 : t5.1 53 = 2 := (k5.1.2.2.1 53 (by decide)).trans (show (fiS t4 53 2).1 53 = 2 from fi_at)
          have t556 : t5.2.1 56 = (Int64.ofInt (tqR (T 0))) := (k5.1.2.2.2.1 56 (by decide)).trans ((flS_k (by decide)).trans t456)
          have F5 : rlF s t5 := rlF_tr F4 (rlF_tr (rlF_fi (k := 53) (x := 2) (by decide)) (rlF_tr (rlF_fl (k := 42) (x := (Int64.ofInt (tqR (T 0)))) (Or.inl rfl)) (rlF_d k5.1)))
          have t552 : t5.1 52 = -1 := t552a.trans t452
          have t5_3 : t5.1 3 = s.1 3 := (k5.2.1).trans t4_3
          have t5_4 : t5.1 4 = s.1 4 := (k5.2.2.1).trans t4_4
          have t5_50 : t5.1 50 = s.1 50 := (k5.2.2.2.1).trans t4_50
          have t5RM : RM T ln t5 3 := RM_eq hRM t5_3 t5_4 t5_50 (by omega)
          refine me1 (pc' := 129) (L' := [(3, ii 0), (2, ii 1), (0, .ref 102), (1, ii (ln : Int))]) (S' := [.ref 102]) dm_X12_read_128 rfl rfl rfl rfl ?_
          refine me1 (pc' := 130) (L' := [(3, ii 0), (2, ii 1), (0, .ref 102), (1, ii (ln : Int))]) (S' := [.ref 102, .ref 102]) dm_X12_read_129 rfl rfl rfl rfl ?_
          rcases eb : pR T fuR 0 1 3 with p_eb | j_eb
          · refine x_cv (pc' := 133) (rest := [.ref 102]) dm_X12_read_130 rfl (q_inv (As := []) (S := [.ref 102]) hm rfl rfl rfl) rfl rfl rfl (r_expr_ hm hT hK (hi := mk + 3) (by omega) hTX fuR _ (t5) 3 1 (by omega) t5D t551 t552 t5RM (by omega) (by omega) (by omega)) ?_
            rintro x_t6 h_t6 hxt6
            obtain ⟨t6, t6v, rfl, rfl, t6R, t652, t6E⟩ := RQ_e eb hxt6
            have hplt6 := pR_ln hK _ _ _ _ _ eb
            have bd : 0 ≤ t6.1 52 ∧ t6.1 52 ≤ 1000 := by omega
            have F6 : rlF s t6 := rlF_tr F5 (rlF_d t6R)
            obtain ⟨t6a0, t6b0, t6c0⟩ := id t6E
            have t6a : t6.1 4 + _ ≤ t5.1 4 + _ := t6a0
            have t6b : t6.1 3 + _ ≤ t5.1 3 + _ := t6b0
            have t6c : t6.1 50 + _ ≤ t5.1 50 + _ := t6c0
            refine me3 (pc' := 136) (S' := []) (h1 := rI pre post (va_up t6.1 54 t6v) t6.2.1 t6.2.2.1 t6.2.2.2) dm_X12_read_133 (q_puti hm rfl rfl (fun m i l v => rf_54 m i l v)) rfl rfl rfl ?_
            refine pg_cast (h2 := rI pre post ((fiS t6 54 t6v).1) ((fiS t6 54 t6v).2.1) ((fiS t6 54 t6v).2.2.1) ((fiS t6 54 t6v).2.2.2)) rfl ?_
            refine me1 (pc' := 137) (L' := [(3, ii 0), (2, ii 1), (0, .ref 102), (1, ii (ln : Int))]) (S' := [.ref 102]) dm_X12_read_136 rfl rfl rfl rfl ?_
            refine me0 (pc' := 139) (S' := [ii 125, .ref 102]) dm_X12_read_137 rfl rfl rfl rfl ?_
            refine x_cn (pc' := 142) (rest := []) dm_X12_read_139 rfl (q_inv (As := [ii 125]) (S := []) hm rfl rfl rfl) rfl rfl rfl (r_closesB (s := (fiS t6 54 t6v)) hm (by omega) (by rw [fi_k (by decide)]; exact bd)) ?_
            rintro _ ⟨t7, rfl, kt7, t752a⟩
            have t7_3 : t7.1 3 = t6.1 3 := kt7.2.1
            have t7_4 : t7.1 4 = t6.1 4 := kt7.2.2.1
            have t7_50 : t7.1 50 = t6.1 50 := kt7.2.2.2.1
            have F7 : rlF s t7 := rlF_tr (rlF_tr F6 (rlF_fi (k := 54) (x := t6v) (by decide))) (rlF_d kt7.1)
            have t752 : t7.1 52 = t6.1 52 := t752a
            replace bd : 0 ≤ t7.1 52 ∧ t7.1 52 ≤ 1000 := by omega
            refine me2 (pc' := 225) (S' := []) dm_X12_read_142 rfl rfl rfl ?_
            refine me1 (pc' := 226) (L' := [(3, ii 0), (2, ii 1), (0, .ref 102), (1, ii (ln : Int))]) (S' := [.ref 102]) dm_X12_read_225 rfl rfl rfl rfl ?_
            refine me3 (pc' := 229) (S' := [ii (t7.1 52)]) dm_X12_read_226 (q_geti (v := t7.1 52) hm rfl (fun m i l => rg_52 m i l) rfl) rfl rfl rfl ?_
            refine y_1ge (a := t7.1 52) (t := 244) (pc' := 232) dm_X12_read_229 rfl rfl (by omega) (fun hb15 => ?_) (fun hb15 => ?_)
            · refine y_ret (r := none) dm_X12_read_244 rfl rfl rfl ?_
              exact ⟨rfl, RRL_e (liR_x (liA_2 hw hls) (liX_e2 hls eb)) F7 (by omega) (by omega) (by omega) (by omega)⟩
            · exfalso; omega
          · refine x_cv (pc' := 133) (rest := [.ref 102]) dm_X12_read_130 rfl (q_inv (As := []) (S := [.ref 102]) hm rfl rfl rfl) rfl rfl rfl (r_expr_ hm hT hK (hi := mk + 3) (by omega) hTX fuR _ (t5) 3 1 (by omega) t5D t551 t552 t5RM (by omega) (by omega) (by omega)) ?_
            rintro x_t6 h_t6 hxt6
            obtain ⟨t6, rfl, t6R, t6D, t651, t652, t6M, neb, Beb, rfl, t6p, t6q, t6B, t6C⟩ := RQ_v eb hxt6
            have t6M : RMd T (t5) t6 3 j_eb 0 (-1) := t6M
            have hjeb := pR_mk hK _ 0 _ _ _ (show 3 ≤ mk by omega) eb
            have hjjeb := hjeb.2.2 (by decide)
            have P_eb := P_ln hK j_eb
            have F6 : rlF s t6 := rlF_tr F5 (rlF_d t6R)
            have t6p : t5.1 50 ≤ _ := t6p
            obtain ⟨t6a0, t6b0, t6c0⟩ := id t6M
            have t6a : t6.1 4 + _ ≤ t5.1 4 + _ := t6a0
            have t6b : t6.1 3 + _ ≤ t5.1 3 + _ := t6b0
            have t6c : t6.1 50 + _ + _ ≤ t5.1 50 + _ ∧ 2 * t6.1 4 + _ + _ ≤ 2 * t5.1 4 + _ := t6c0
            have t638 : t6.1 38 = ((tqS (T j_eb) : Nat) : Int) := by rw [hT]; exact (RD_38 t6D).1
            have t639 : t6.1 39 = ((tqP (T j_eb) : Nat) : Int) := by rw [hT]; exact (RD_38 t6D).2
            have t68 : tqS (T j_eb) ≤ 8 := by rw [hT]; exact tkI_8
            refine me3 (pc' := 136) (S' := []) (h1 := rI pre post (va_up t6.1 54 (neb : Int)) t6.2.1 t6.2.2.1 t6.2.2.2) dm_X12_read_133 (q_puti hm rfl rfl (fun m i l v => rf_54 m i l v)) rfl rfl rfl ?_
            refine pg_cast (h2 := rI pre post ((fiS t6 54 (neb : Int)).1) ((fiS t6 54 (neb : Int)).2.1) ((fiS t6 54 (neb : Int)).2.2.1) ((fiS t6 54 (neb : Int)).2.2.2)) rfl ?_
            refine me1 (pc' := 137) (L' := [(3, ii 0), (2, ii 1), (0, .ref 102), (1, ii (ln : Int))]) (S' := [.ref 102]) dm_X12_read_136 rfl rfl rfl rfl ?_
            refine me0 (pc' := 139) (S' := [ii 125, .ref 102]) dm_X12_read_137 rfl rfl rfl rfl ?_
            by_cases hm125 : isMk T j_eb 125
            · have lhm125 := TOKS_lt hK (i := j_eb) (by have := hm125.1; omega)
              have Phm125 := hK.2.2.2.2.2.2.1 j_eb lhm125
              refine x_cn (pc' := 142) (rest := []) dm_X12_read_139 rfl (q_inv (As := [ii 125]) (S := []) hm rfl rfl rfl) rfl rfl rfl (r_closesT (s := (fiS t6 54 (neb : Int))) (i := j_eb) (o := 0) hm (by omega) hT hK (RD_fi (by decide) t6D) (by decide) ((fi_k (by decide)).trans t651) ((fi_k (by decide)).trans t652) hm125 (by omega)) ?_
              rintro _ ⟨t7, rfl, kt7, t7D, t751, t752⟩
              have t7_3 : t7.1 3 = t6.1 3 := kt7.2.1
              have t7_4 : t7.1 4 = t6.1 4 := kt7.2.2.1
              have t7_50 : t7.1 50 = t6.1 50 := kt7.2.2.2.1
              have F7 : rlF s t7 := rlF_tr (rlF_tr F6 (rlF_fi (k := 54) (x := (neb : Int)) (by decide))) (rlF_d kt7.1)
              have t738 : t7.1 38 = ((tqS (T (j_eb + 1)) : Nat) : Int) := by rw [hT]; exact (RD_38 t7D).1
              have t739 : t7.1 39 = ((tqP (T (j_eb + 1)) : Nat) : Int) := by rw [hT]; exact (RD_38 t7D).2
              have t78 : tqS (T (j_eb + 1)) ≤ 8 := by rw [hT]; exact tkI_8
              refine me2 (pc' := 225) (S' := []) dm_X12_read_142 rfl rfl rfl ?_
              refine me1 (pc' := 226) (L' := [(3, ii 0), (2, ii 1), (0, .ref 102), (1, ii (ln : Int))]) (S' := [.ref 102]) dm_X12_read_225 rfl rfl rfl rfl ?_
              refine me3 (pc' := 229) (S' := [ii (t7.1 52)]) dm_X12_read_226 (q_geti (v := t7.1 52) hm rfl (fun m i l => rg_52 m i l) rfl) rfl rfl rfl ?_
              refine y_1ge (a := t7.1 52) (t := 244) (pc' := 232) dm_X12_read_229 rfl rfl (by omega) (fun hb16 => ?_) (fun hb16 => ?_)
              · exfalso; omega
              · refine me1 (pc' := 233) (L' := [(3, ii 0), (2, ii 1), (0, .ref 102), (1, ii (ln : Int))]) (S' := [.ref 102]) dm_X12_read_232 rfl rfl rfl rfl ?_
                refine me3 (pc' := 236) (S' := [ii (t7.1 38)]) dm_X12_read_233 (q_geti (v := t7.1 38) hm rfl (fun m i l => rg_38 m i l) rfl) rfl rfl rfl ?_
                refine y_1eq (a := t7.1 38) (t := 244) (pc' := 239) dm_X12_read_236 rfl rfl (by omega) (fun hb17 => ?_) (fun hb17 => ?_)
                · refine y_ret (r := none) dm_X12_read_244 rfl rfl rfl ?_
                  have h753 : t7.1 53 = 2 := (kt7.1.2.2.1 53 (by decide)).trans ((fi_k (by decide)).trans ((t6R.2.2.1 53 (by decide)).trans t553))
                  have h756 : t7.2.1 56 = (Int64.ofInt (tqR (T 0))) := (kt7.1.2.2.2.1 56 (by decide)).trans ((t6R.2.2.2.1 56 (by decide)).trans t556)
                  have h754 : t7.1 54 = (neb : Int) := (kt7.1.2.2.1 54 (by decide)).trans fi_at
                  exact ⟨rfl, RRL_v (o := 1) (rt := neb) (B := Beb) (liR_v (liA_2 hw hls) ((liX_v2 hls eb hm125).trans (liE_0 (by omega)))) F7 (by omega) (by omega) (by omega) t752 (h753.trans hlz.symm) (fun _ => h756) h754 (by omega) (by omega) t6q (by rw [hls]; rfl) (rR_k _ _ _ _ _ _ _ _ _ _ (ndK_d (rdR_tr (rdR_rf _) kt7.1) (show ((Beb : Nat) : Int) ≤ (fiS t6 54 (neb : Int)).1 50 by rw [fi_k (by decide)]; omega)) (Nat.le_refl _) (rR_k _ _ _ _ _ _ _ _ _ _ (ndK_fi (by decide)) (Nat.le_refl _) t6C)) (fun z => by omega) (by omega)⟩
                · refine me1 (pc' := 240) (L' := [(3, ii 0), (2, ii 1), (0, .ref 102), (1, ii (ln : Int))]) (S' := [.ref 102]) dm_X12_read_239 rfl rfl rfl rfl ?_
                  refine x_cv (pc' := 243) (rest := []) dm_X12_read_240 rfl (q_inv (As := []) (S := []) hm rfl rfl rfl) rfl rfl rfl (r_wrong_ (s := t7) hm (by omega) (by omega)) ?_
                  rintro _ _ ⟨rfl, rfl⟩
                  refine me0 (pc' := 244) (S' := []) dm_X12_read_243 rfl rfl rfl rfl ?_
                  refine y_ret (r := none) dm_X12_read_244 rfl rfl rfl ?_
                  exact ⟨rfl, RRL_e (liR_x (liA_2 hw hls) ((liX_v2 hls eb hm125).trans (liE_1 (by omega)))) (rlF_tr F7 (rlF_d (rdT_wr _).1)) (by rw [(rdT_wr _).2.2.1]; omega) (by rw [(rdT_wr _).2.1]; omega) (by rw [(rdT_wr _).2.2.2.1]; omega) ((wr_52 (by omega)).trans t739)⟩
            · refine x_cn (pc' := 142) (rest := []) dm_X12_read_139 rfl (q_inv (As := [ii 125]) (S := []) hm rfl rfl rfl) rfl rfl rfl (r_closesF (s := (fiS t6 54 (neb : Int))) (i := j_eb) hm (by omega) hT hK (RD_fi (by decide) t6D) (by decide) ((fi_k (by decide)).trans t652) hm125) ?_
              rintro _ ⟨t7, rfl, kt7, t752⟩
              have t7_3 : t7.1 3 = t6.1 3 := kt7.2.1
              have t7_4 : t7.1 4 = t6.1 4 := kt7.2.2.1
              have t7_50 : t7.1 50 = t6.1 50 := kt7.2.2.2.1
              have F7 : rlF s t7 := rlF_tr (rlF_tr F6 (rlF_fi (k := 54) (x := (neb : Int)) (by decide))) (rlF_d kt7.1)
              have bd : 0 ≤ t7.1 52 ∧ t7.1 52 ≤ 1000 := by have := P_ln hK (j_eb); omega
              refine me2 (pc' := 225) (S' := []) dm_X12_read_142 rfl rfl rfl ?_
              refine me1 (pc' := 226) (L' := [(3, ii 0), (2, ii 1), (0, .ref 102), (1, ii (ln : Int))]) (S' := [.ref 102]) dm_X12_read_225 rfl rfl rfl rfl ?_
              refine me3 (pc' := 229) (S' := [ii (t7.1 52)]) dm_X12_read_226 (q_geti (v := t7.1 52) hm rfl (fun m i l => rg_52 m i l) rfl) rfl rfl rfl ?_
              refine y_1ge (a := t7.1 52) (t := 244) (pc' := 232) dm_X12_read_229 rfl rfl (by omega) (fun hb18 => ?_) (fun hb18 => ?_)
              · refine y_ret (r := none) dm_X12_read_244 rfl rfl rfl ?_
                exact ⟨rfl, RRL_e (liR_x (liA_2 hw hls) (liX_x2 hls eb hm125)) F7 (by omega) (by omega) (by omega) (by omega)⟩
              · exfalso; omega
  · have hlz : ((liS T : Nat) : Int) = 3 := by rw [hls]; rfl
    have h2m := liS_3 hls
    have hmk3 := TOKS_lt hK (i := 2) (by have := h2m.1; omega)
    have hnm := liS_nm (T := T) (by omega)
    obtain ⟨hRr, hox, hoy⟩ := (show _ ∧ _ ∧ _ by have z := hnm; rw [hT] at z; have y := nm_own z; rw [← hT] at y; exact y)
    have e41 : (Int64.ofInt (tqR (T 0))).toInt = tqR (T 0) := n_toL (by omega) (by omega)
    have P01 := P_le hK (i := 0) (j := 1) (by omega) (by omega)
    have P02 := P_le hK (i := 0) (j := 2) (by omega) (by omega)
    have P03 := P_le hK (i := 0) (j := 3) (by omega) (by omega)
    by_cases hw : liW T
    · refine x_cn (pc' := 5) (rest := []) dm_X12_read_2 rfl (q_inv (As := [ii (ln : Int)]) (S := []) hm rfl rfl rfl) rfl rfl rfl (r_begin_ (s := s) (hi := (mk + 3)) hm (by omega) hTN (fun j _ => hF1 (by omega) j)) ?_
      rintro _ ⟨t0, rfl, b0D, b051, b052, b042, b0F⟩
      have b0q : (fiS t0 53 0).2.2.2 = s.2.2.2 := by show t0.2.2.2 = _; rw [b0F.1]
      refine me1 (pc' := 6) (L' := [(0, .ref 102), (1, ii (ln : Int))]) (S' := [.ref 102]) dm_X12_read_5 rfl rfl rfl rfl ?_
      refine me0 (pc' := 7) (S' := [ii 0, .ref 102]) dm_X12_read_6 rfl rfl rfl rfl ?_
      refine me3 (pc' := 10) (S' := []) (h1 := rI pre post (va_up t0.1 53 0) t0.2.1 t0.2.2.1 t0.2.2.2) dm_X12_read_7 (q_puti hm rfl rfl (fun m i l v => rf_53 m i l v)) rfl rfl rfl ?_
      refine pg_cast (h2 := rI pre post ((fiS t0 53 0).1) ((fiS t0 53 0).2.1) ((fiS t0 53 0).2.2.1) ((fiS t0 53 0).2.2.2)) rfl ?_
      refine me1 (pc' := 11) (L' := [(0, .ref 102), (1, ii (ln : Int))]) (S' := [.ref 102]) dm_X12_read_10 rfl rfl rfl rfl ?_
      refine me1 (pc' := 12) (L' := [(0, .ref 102), (1, ii (ln : Int))]) (S' := [ii (ln : Int), .ref 102]) dm_X12_read_11 rfl rfl rfl rfl ?_
      refine x_cv (pc' := 15) (rest := []) dm_X12_read_12 rfl (q_inv (As := [ii (ln : Int)]) (S := []) hm rfl rfl rfl) rfl rfl rfl (r_isNaming_ (s := fiS t0 53 0) (hi := (mk + 3)) (hi2 := (mk + 3)) hm (by omega) hT hK (TN_fi (by decide) (TN_k b0F hTN)) (RD_fi (by decide) b0D) (fun j hj => FN_b b0q ((fun j _ => hF1 (by omega) j) j hj)) (by omega)) ?_
      rintro _ _ ⟨rfl, t1, rfl, b1D, b151, b152, b142, b1F⟩
      have F1 : rlF s t1 := rlF_tr (rlF_b b0F) (rlF_tr (rlF_fi (by decide)) (rlF_b b1F))
      have t1_3 : t1.1 3 = s.1 3 := (b1F.2.1 3 (by decide)).trans ((fi_k (by decide)).trans (b0F.2.1 3 (by decide)))
      have t1_4 : t1.1 4 = s.1 4 := (b1F.2.1 4 (by decide)).trans ((fi_k (by decide)).trans (b0F.2.1 4 (by decide)))
      have t1_50 : t1.1 50 = s.1 50 := (b1F.2.1 50 (by decide)).trans ((fi_k (by decide)).trans (b0F.2.1 50 (by decide)))
      refine pg_st (S' := [ii 0]) (congrArg (fun z => z :: []) (zf (fun z => by have := liS_na.mp z; omega)).symm) ?_
      refine me1 (pc' := 16) (L' := [(2, ii 0), (0, .ref 102), (1, ii (ln : Int))]) (S' := []) dm_X12_read_15 rfl rfl rfl rfl ?_
      refine me1 (pc' := 17) (L' := [(2, ii 0), (0, .ref 102), (1, ii (ln : Int))]) (S' := [ii 0]) dm_X12_read_16 rfl rfl rfl rfl ?_
      refine me_1f (pc' := 20) dm_X12_read_17 rfl (by decide) rfl ?_
      refine me1 (pc' := 21) (L' := [(2, ii 0), (0, .ref 102), (1, ii (ln : Int))]) (S' := [.ref 102]) dm_X12_read_20 rfl rfl rfl rfl ?_
      refine me1 (pc' := 22) (L' := [(2, ii 0), (0, .ref 102), (1, ii (ln : Int))]) (S' := [ii (ln : Int), .ref 102]) dm_X12_read_21 rfl rfl rfl rfl ?_
      refine x_cv (pc' := 25) (rest := []) dm_X12_read_22 rfl (q_inv (As := [ii (ln : Int)]) (S := []) hm rfl rfl rfl) rfl rfl rfl (r_isAmending_ (s := t1) (hi := mk + 3) (hi2 := mk + 3) hm (by omega) hT hK (TN_k b1F (TN_fi (by decide) (TN_k b0F hTN))) b1D (fun j hj => FN_b (by rw [b1F.1]; exact b0q) ((fun j _ => hF1 (by omega) j) j hj)) (by omega)) ?_
      rintro _ _ ⟨rfl, t2, rfl, b2D, b251, b252, b242, b2F⟩
      have F2 : rlF s t2 := rlF_tr F1 (rlF_b b2F)
      have t2_3 : t2.1 3 = s.1 3 := (b2F.2.1 3 (by decide)).trans t1_3
      have t2_4 : t2.1 4 = s.1 4 := (b2F.2.1 4 (by decide)).trans t1_4
      have t2_50 : t2.1 50 = s.1 50 := (b2F.2.1 50 (by decide)).trans t1_50
      refine pg_st (S' := [ii 1]) (congrArg (fun z => z :: []) (zt ((liS_am (by omega)).mpr hls)).symm) ?_
      refine me_1f (pc' := 28) dm_X12_read_25 rfl (by decide) rfl ?_
      refine me0 (pc' := 29) (S' := [ii 1]) dm_X12_read_28 rfl rfl rfl rfl ?_
      refine me2 (pc' := 33) (S' := [ii 1]) dm_X12_read_29 rfl rfl rfl ?_
      refine me1 (pc' := 34) (L' := [(3, ii 1), (2, ii 0), (0, .ref 102), (1, ii (ln : Int))]) (S' := []) dm_X12_read_33 rfl rfl rfl rfl ?_
      refine me1 (pc' := 35) (L' := [(3, ii 1), (2, ii 0), (0, .ref 102), (1, ii (ln : Int))]) (S' := [ii 0]) dm_X12_read_34 rfl rfl rfl rfl ?_
      refine me_1f (pc' := 38) dm_X12_read_35 rfl (by decide) rfl ?_
      refine me1 (pc' := 39) (L' := [(3, ii 1), (2, ii 0), (0, .ref 102), (1, ii (ln : Int))]) (S' := [ii 1]) dm_X12_read_38 rfl rfl rfl rfl ?_
      refine me_1f (pc' := 42) dm_X12_read_39 rfl (by decide) rfl ?_
      have d41 : t2.2.1 41 = (Int64.ofInt (tqR (T 0))) := by rw [hT]; exact RD_dn b2D (by rw [← hT]; exact hnm)
      have c38 : t2.1 38 = ((tqS (T 0) : Nat) : Int) := by rw [hT]; exact (RD_38 b2D).1
      have c39 : t2.1 39 = ((tqP (T 0) : Nat) : Int) := by rw [hT]; exact (RD_38 b2D).2
      have c52 : t2.1 52 = -1 := b252
      refine me1 (pc' := 43) (L' := [(3, ii 1), (2, ii 0), (0, .ref 102), (1, ii (ln : Int))]) (S' := [.ref 102]) dm_X12_read_42 rfl rfl rfl rfl ?_
      refine me1 (pc' := 44) (L' := [(3, ii 1), (2, ii 0), (0, .ref 102), (1, ii (ln : Int))]) (S' := [.ref 102, .ref 102]) dm_X12_read_43 rfl rfl rfl rfl ?_
      refine me3 (pc' := 47) (S' := [.long (t2.2.1 41), .ref 102]) dm_X12_read_44 (q_getl (v := t2.2.1 41) hm rfl (fun m i l => rg_41 m i l) rfl) rfl rfl rfl ?_
      refine me3 (pc' := 50) (S' := []) (h1 := rI pre post t2.1 (va_up t2.2.1 56 (t2.2.1 41)) t2.2.2.1 t2.2.2.2) dm_X12_read_47 (q_putl hm rfl rfl (fun m i l v => rf_56 m i l v)) rfl rfl rfl ?_
      refine me1 (pc' := 51) (L' := [(3, ii 1), (2, ii 0), (0, .ref 102), (1, ii (ln : Int))]) (S' := [.ref 102]) dm_X12_read_50 rfl rfl rfl rfl ?_
      refine me3 (pc' := 54) (S' := [.long (t2.2.1 41)]) dm_X12_read_51 (q_getl (v := t2.2.1 41) hm rfl (fun m i l => rg_56 m i l) rfl) rfl rfl rfl ?_
      refine me3 (pc' := 57) (S' := [.long (Int64.ofInt 120), .long (t2.2.1 41)]) dm_X12_read_54 rfl rfl rfl rfl ?_
      refine y_leq (x := t2.2.1 41) (y := Int64.ofInt 120) (t := 84) (pc1 := 58) (pc' := 61) dm_X12_read_57 rfl dm_X12_read_58 rfl rfl (fun hb19 => ?_) (fun hb19 => ?_)
      · have hb19i := congrArg Int64.toInt hb19
        rw [d41, e41, e120] at hb19i
        refine me1 (pc' := 85) (L' := [(3, ii 1), (2, ii 0), (0, .ref 102), (1, ii (ln : Int))]) (S' := [.ref 102]) dm_X12_read_84 rfl rfl rfl rfl ?_
        refine x_cv (pc' := 88) (rest := []) dm_X12_read_85 rfl (q_inv (As := []) (S := []) hm rfl rfl rfl) rfl rfl rfl (r_wrong_ (s := (t2.1, va_up t2.2.1 56 (t2.2.1 41), t2.2.2.1, t2.2.2.2)) hm (by omega) (by show -2147483648 ≤ t2.1 52 ∧ t2.1 52 ≤ 2147483647; omega)) ?_
        rintro _ _ ⟨rfl, rfl⟩
        refine me0 (pc' := 89) (S' := []) dm_X12_read_88 rfl rfl rfl rfl ?_
        refine y_ret (r := none) dm_X12_read_89 rfl rfl rfl ?_
        have fw : rlF s (t2.1, va_up t2.2.1 56 (t2.2.1 41), t2.2.2.1, t2.2.2.2) := rlF_tr F2 (rlF_fl (k := 56) (Or.inr rfl))
        exact ⟨rfl, RRL_e (liR_a (liA_w hw)) (rlF_tr fw (rlF_d (rdT_wr _).1)) (by rw [(rdT_wr _).2.2.1]; show t2.1 4 ≤ _; omega) (by rw [(rdT_wr _).2.1]; show t2.1 3 ≤ _; omega) (by rw [(rdT_wr _).2.2.2.1]; show t2.1 50 ≤ _; omega) ((wr_52 (by show t2.1 52 < 0; omega)).trans c39)⟩
      · have hb19i : ¬ (t2.2.1 41).toInt = (Int64.ofInt 120).toInt := fun z => hb19 (Int64.toInt_inj.mp z)
        rw [d41, e41, e120] at hb19i
        refine me1 (pc' := 62) (L' := [(3, ii 1), (2, ii 0), (0, .ref 102), (1, ii (ln : Int))]) (S' := [.ref 102]) dm_X12_read_61 rfl rfl rfl rfl ?_
        refine me3 (pc' := 65) (S' := [.long (t2.2.1 41)]) dm_X12_read_62 (q_getl (v := t2.2.1 41) hm rfl (fun m i l => rg_56 m i l) rfl) rfl rfl rfl ?_
        refine me3 (pc' := 68) (S' := [.long (Int64.ofInt 121), .long (t2.2.1 41)]) dm_X12_read_65 rfl rfl rfl rfl ?_
        refine y_leq (x := t2.2.1 41) (y := Int64.ofInt 121) (t := 84) (pc1 := 69) (pc' := 72) dm_X12_read_68 rfl dm_X12_read_69 rfl rfl (fun hb20 => ?_) (fun hb20 => ?_)
        · have hb20i := congrArg Int64.toInt hb20
          rw [d41, e41, e121] at hb20i
          refine me1 (pc' := 85) (L' := [(3, ii 1), (2, ii 0), (0, .ref 102), (1, ii (ln : Int))]) (S' := [.ref 102]) dm_X12_read_84 rfl rfl rfl rfl ?_
          refine x_cv (pc' := 88) (rest := []) dm_X12_read_85 rfl (q_inv (As := []) (S := []) hm rfl rfl rfl) rfl rfl rfl (r_wrong_ (s := (t2.1, va_up t2.2.1 56 (t2.2.1 41), t2.2.2.1, t2.2.2.2)) hm (by omega) (by show -2147483648 ≤ t2.1 52 ∧ t2.1 52 ≤ 2147483647; omega)) ?_
          rintro _ _ ⟨rfl, rfl⟩
          refine me0 (pc' := 89) (S' := []) dm_X12_read_88 rfl rfl rfl rfl ?_
          refine y_ret (r := none) dm_X12_read_89 rfl rfl rfl ?_
          have fw : rlF s (t2.1, va_up t2.2.1 56 (t2.2.1 41), t2.2.2.1, t2.2.2.2) := rlF_tr F2 (rlF_fl (k := 56) (Or.inr rfl))
          exact ⟨rfl, RRL_e (liR_a (liA_w hw)) (rlF_tr fw (rlF_d (rdT_wr _).1)) (by rw [(rdT_wr _).2.2.1]; show t2.1 4 ≤ _; omega) (by rw [(rdT_wr _).2.1]; show t2.1 3 ≤ _; omega) (by rw [(rdT_wr _).2.2.2.1]; show t2.1 50 ≤ _; omega) ((wr_52 (by show t2.1 52 < 0; omega)).trans c39)⟩
        · have hb20i : ¬ (t2.2.1 41).toInt = (Int64.ofInt 121).toInt := fun z => hb20 (Int64.toInt_inj.mp z)
          rw [d41, e41, e121] at hb20i
          refine me1 (pc' := 73) (L' := [(3, ii 1), (2, ii 0), (0, .ref 102), (1, ii (ln : Int))]) (S' := [ii 1]) dm_X12_read_72 rfl rfl rfl rfl ?_
          refine me_1f (pc' := 76) dm_X12_read_73 rfl (by decide) rfl ?_
          refine me1 (pc' := 77) (L' := [(3, ii 1), (2, ii 0), (0, .ref 102), (1, ii (ln : Int))]) (S' := [.ref 102]) dm_X12_read_76 rfl rfl rfl rfl ?_
          refine me3 (pc' := 80) (S' := [ii (t2.1 38)]) dm_X12_read_77 (q_geti (v := t2.1 38) hm rfl (fun m i l => rg_38 m i l) rfl) rfl rfl rfl ?_
          refine me0 (pc' := 81) (S' := [ii 4, ii (t2.1 38)]) dm_X12_read_80 rfl rfl rfl rfl ?_
          refine y_2ne (a := t2.1 38) (b := 4) (t := 90) (pc' := 84) dm_X12_read_81 rfl rfl (by omega) (fun hb21 => ?_) (fun hb21 => ?_)
          · exfalso; omega
          · refine me1 (pc' := 85) (L' := [(3, ii 1), (2, ii 0), (0, .ref 102), (1, ii (ln : Int))]) (S' := [.ref 102]) dm_X12_read_84 rfl rfl rfl rfl ?_
            refine x_cv (pc' := 88) (rest := []) dm_X12_read_85 rfl (q_inv (As := []) (S := []) hm rfl rfl rfl) rfl rfl rfl (r_wrong_ (s := (t2.1, va_up t2.2.1 56 (t2.2.1 41), t2.2.2.1, t2.2.2.2)) hm (by omega) (by show -2147483648 ≤ t2.1 52 ∧ t2.1 52 ≤ 2147483647; omega)) ?_
            rintro _ _ ⟨rfl, rfl⟩
            refine me0 (pc' := 89) (S' := []) dm_X12_read_88 rfl rfl rfl rfl ?_
            refine y_ret (r := none) dm_X12_read_89 rfl rfl rfl ?_
            have fw : rlF s (t2.1, va_up t2.2.1 56 (t2.2.1 41), t2.2.2.1, t2.2.2.2) := rlF_tr F2 (rlF_fl (k := 56) (Or.inr rfl))
            exact ⟨rfl, RRL_e (liR_a (liA_w hw)) (rlF_tr fw (rlF_d (rdT_wr _).1)) (by rw [(rdT_wr _).2.2.1]; show t2.1 4 ≤ _; omega) (by rw [(rdT_wr _).2.1]; show t2.1 3 ≤ _; omega) (by rw [(rdT_wr _).2.2.2.1]; show t2.1 50 ≤ _; omega) ((wr_52 (by show t2.1 52 < 0; omega)).trans c39)⟩
    · refine x_cn (pc' := 5) (rest := []) dm_X12_read_2 rfl (q_inv (As := [ii (ln : Int)]) (S := []) hm rfl rfl rfl) rfl rfl rfl (r_begin_ (s := s) (hi := (mk + 3)) hm (by omega) hTN (fun j _ => hF1 (by omega) j)) ?_
      rintro _ ⟨t0, rfl, b0D, b051, b052, b042, b0F⟩
      have b0q : (fiS t0 53 0).2.2.2 = s.2.2.2 := by show t0.2.2.2 = _; rw [b0F.1]
      refine me1 (pc' := 6) (L' := [(0, .ref 102), (1, ii (ln : Int))]) (S' := [.ref 102]) dm_X12_read_5 rfl rfl rfl rfl ?_
      refine me0 (pc' := 7) (S' := [ii 0, .ref 102]) dm_X12_read_6 rfl rfl rfl rfl ?_
      refine me3 (pc' := 10) (S' := []) (h1 := rI pre post (va_up t0.1 53 0) t0.2.1 t0.2.2.1 t0.2.2.2) dm_X12_read_7 (q_puti hm rfl rfl (fun m i l v => rf_53 m i l v)) rfl rfl rfl ?_
      refine pg_cast (h2 := rI pre post ((fiS t0 53 0).1) ((fiS t0 53 0).2.1) ((fiS t0 53 0).2.2.1) ((fiS t0 53 0).2.2.2)) rfl ?_
      refine me1 (pc' := 11) (L' := [(0, .ref 102), (1, ii (ln : Int))]) (S' := [.ref 102]) dm_X12_read_10 rfl rfl rfl rfl ?_
      refine me1 (pc' := 12) (L' := [(0, .ref 102), (1, ii (ln : Int))]) (S' := [ii (ln : Int), .ref 102]) dm_X12_read_11 rfl rfl rfl rfl ?_
      refine x_cv (pc' := 15) (rest := []) dm_X12_read_12 rfl (q_inv (As := [ii (ln : Int)]) (S := []) hm rfl rfl rfl) rfl rfl rfl (r_isNaming_ (s := fiS t0 53 0) (hi := (mk + 3)) (hi2 := (mk + 3)) hm (by omega) hT hK (TN_fi (by decide) (TN_k b0F hTN)) (RD_fi (by decide) b0D) (fun j hj => FN_b b0q ((fun j _ => hF1 (by omega) j) j hj)) (by omega)) ?_
      rintro _ _ ⟨rfl, t1, rfl, b1D, b151, b152, b142, b1F⟩
      have F1 : rlF s t1 := rlF_tr (rlF_b b0F) (rlF_tr (rlF_fi (by decide)) (rlF_b b1F))
      have t1_3 : t1.1 3 = s.1 3 := (b1F.2.1 3 (by decide)).trans ((fi_k (by decide)).trans (b0F.2.1 3 (by decide)))
      have t1_4 : t1.1 4 = s.1 4 := (b1F.2.1 4 (by decide)).trans ((fi_k (by decide)).trans (b0F.2.1 4 (by decide)))
      have t1_50 : t1.1 50 = s.1 50 := (b1F.2.1 50 (by decide)).trans ((fi_k (by decide)).trans (b0F.2.1 50 (by decide)))
      refine pg_st (S' := [ii 0]) (congrArg (fun z => z :: []) (zf (fun z => by have := liS_na.mp z; omega)).symm) ?_
      refine me1 (pc' := 16) (L' := [(2, ii 0), (0, .ref 102), (1, ii (ln : Int))]) (S' := []) dm_X12_read_15 rfl rfl rfl rfl ?_
      refine me1 (pc' := 17) (L' := [(2, ii 0), (0, .ref 102), (1, ii (ln : Int))]) (S' := [ii 0]) dm_X12_read_16 rfl rfl rfl rfl ?_
      refine me_1f (pc' := 20) dm_X12_read_17 rfl (by decide) rfl ?_
      refine me1 (pc' := 21) (L' := [(2, ii 0), (0, .ref 102), (1, ii (ln : Int))]) (S' := [.ref 102]) dm_X12_read_20 rfl rfl rfl rfl ?_
      refine me1 (pc' := 22) (L' := [(2, ii 0), (0, .ref 102), (1, ii (ln : Int))]) (S' := [ii (ln : Int), .ref 102]) dm_X12_read_21 rfl rfl rfl rfl ?_
      refine x_cv (pc' := 25) (rest := []) dm_X12_read_22 rfl (q_inv (As := [ii (ln : Int)]) (S := []) hm rfl rfl rfl) rfl rfl rfl (r_isAmending_ (s := t1) (hi := mk + 3) (hi2 := mk + 3) hm (by omega) hT hK (TN_k b1F (TN_fi (by decide) (TN_k b0F hTN))) b1D (fun j hj => FN_b (by rw [b1F.1]; exact b0q) ((fun j _ => hF1 (by omega) j) j hj)) (by omega)) ?_
      rintro _ _ ⟨rfl, t2, rfl, b2D, b251, b252, b242, b2F⟩
      have F2 : rlF s t2 := rlF_tr F1 (rlF_b b2F)
      have t2_3 : t2.1 3 = s.1 3 := (b2F.2.1 3 (by decide)).trans t1_3
      have t2_4 : t2.1 4 = s.1 4 := (b2F.2.1 4 (by decide)).trans t1_4
      have t2_50 : t2.1 50 = s.1 50 := (b2F.2.1 50 (by decide)).trans t1_50
      refine pg_st (S' := [ii 1]) (congrArg (fun z => z :: []) (zt ((liS_am (by omega)).mpr hls)).symm) ?_
      refine me_1f (pc' := 28) dm_X12_read_25 rfl (by decide) rfl ?_
      refine me0 (pc' := 29) (S' := [ii 1]) dm_X12_read_28 rfl rfl rfl rfl ?_
      refine me2 (pc' := 33) (S' := [ii 1]) dm_X12_read_29 rfl rfl rfl ?_
      refine me1 (pc' := 34) (L' := [(3, ii 1), (2, ii 0), (0, .ref 102), (1, ii (ln : Int))]) (S' := []) dm_X12_read_33 rfl rfl rfl rfl ?_
      refine me1 (pc' := 35) (L' := [(3, ii 1), (2, ii 0), (0, .ref 102), (1, ii (ln : Int))]) (S' := [ii 0]) dm_X12_read_34 rfl rfl rfl rfl ?_
      refine me_1f (pc' := 38) dm_X12_read_35 rfl (by decide) rfl ?_
      refine me1 (pc' := 39) (L' := [(3, ii 1), (2, ii 0), (0, .ref 102), (1, ii (ln : Int))]) (S' := [ii 1]) dm_X12_read_38 rfl rfl rfl rfl ?_
      refine me_1f (pc' := 42) dm_X12_read_39 rfl (by decide) rfl ?_
      have d41 : t2.2.1 41 = (Int64.ofInt (tqR (T 0))) := by rw [hT]; exact RD_dn b2D (by rw [← hT]; exact hnm)
      have c38 : t2.1 38 = ((tqS (T 0) : Nat) : Int) := by rw [hT]; exact (RD_38 b2D).1
      have c39 : t2.1 39 = ((tqP (T 0) : Nat) : Int) := by rw [hT]; exact (RD_38 b2D).2
      have c52 : t2.1 52 = -1 := b252
      refine me1 (pc' := 43) (L' := [(3, ii 1), (2, ii 0), (0, .ref 102), (1, ii (ln : Int))]) (S' := [.ref 102]) dm_X12_read_42 rfl rfl rfl rfl ?_
      refine me1 (pc' := 44) (L' := [(3, ii 1), (2, ii 0), (0, .ref 102), (1, ii (ln : Int))]) (S' := [.ref 102, .ref 102]) dm_X12_read_43 rfl rfl rfl rfl ?_
      refine me3 (pc' := 47) (S' := [.long (t2.2.1 41), .ref 102]) dm_X12_read_44 (q_getl (v := t2.2.1 41) hm rfl (fun m i l => rg_41 m i l) rfl) rfl rfl rfl ?_
      refine me3 (pc' := 50) (S' := []) (h1 := rI pre post t2.1 (va_up t2.2.1 56 (t2.2.1 41)) t2.2.2.1 t2.2.2.2) dm_X12_read_47 (q_putl hm rfl rfl (fun m i l v => rf_56 m i l v)) rfl rfl rfl ?_
      refine me1 (pc' := 51) (L' := [(3, ii 1), (2, ii 0), (0, .ref 102), (1, ii (ln : Int))]) (S' := [.ref 102]) dm_X12_read_50 rfl rfl rfl rfl ?_
      refine me3 (pc' := 54) (S' := [.long (t2.2.1 41)]) dm_X12_read_51 (q_getl (v := t2.2.1 41) hm rfl (fun m i l => rg_56 m i l) rfl) rfl rfl rfl ?_
      refine me3 (pc' := 57) (S' := [.long (Int64.ofInt 120), .long (t2.2.1 41)]) dm_X12_read_54 rfl rfl rfl rfl ?_
      refine y_leq (x := t2.2.1 41) (y := Int64.ofInt 120) (t := 84) (pc1 := 58) (pc' := 61) dm_X12_read_57 rfl dm_X12_read_58 rfl rfl (fun hb22 => ?_) (fun hb22 => ?_)
      · have hb22i := congrArg Int64.toInt hb22
        rw [d41, e41, e120] at hb22i
        exfalso; omega
      · have hb22i : ¬ (t2.2.1 41).toInt = (Int64.ofInt 120).toInt := fun z => hb22 (Int64.toInt_inj.mp z)
        rw [d41, e41, e120] at hb22i
        refine me1 (pc' := 62) (L' := [(3, ii 1), (2, ii 0), (0, .ref 102), (1, ii (ln : Int))]) (S' := [.ref 102]) dm_X12_read_61 rfl rfl rfl rfl ?_
        refine me3 (pc' := 65) (S' := [.long (t2.2.1 41)]) dm_X12_read_62 (q_getl (v := t2.2.1 41) hm rfl (fun m i l => rg_56 m i l) rfl) rfl rfl rfl ?_
        refine me3 (pc' := 68) (S' := [.long (Int64.ofInt 121), .long (t2.2.1 41)]) dm_X12_read_65 rfl rfl rfl rfl ?_
        refine y_leq (x := t2.2.1 41) (y := Int64.ofInt 121) (t := 84) (pc1 := 69) (pc' := 72) dm_X12_read_68 rfl dm_X12_read_69 rfl rfl (fun hb23 => ?_) (fun hb23 => ?_)
        · have hb23i := congrArg Int64.toInt hb23
          rw [d41, e41, e121] at hb23i
          exfalso; omega
        · have hb23i : ¬ (t2.2.1 41).toInt = (Int64.ofInt 121).toInt := fun z => hb23 (Int64.toInt_inj.mp z)
          rw [d41, e41, e121] at hb23i
          refine me1 (pc' := 73) (L' := [(3, ii 1), (2, ii 0), (0, .ref 102), (1, ii (ln : Int))]) (S' := [ii 1]) dm_X12_read_72 rfl rfl rfl rfl ?_
          refine me_1f (pc' := 76) dm_X12_read_73 rfl (by decide) rfl ?_
          refine me1 (pc' := 77) (L' := [(3, ii 1), (2, ii 0), (0, .ref 102), (1, ii (ln : Int))]) (S' := [.ref 102]) dm_X12_read_76 rfl rfl rfl rfl ?_
          refine me3 (pc' := 80) (S' := [ii (t2.1 38)]) dm_X12_read_77 (q_geti (v := t2.1 38) hm rfl (fun m i l => rg_38 m i l) rfl) rfl rfl rfl ?_
          refine me0 (pc' := 81) (S' := [ii 4, ii (t2.1 38)]) dm_X12_read_80 rfl rfl rfl rfl ?_
          refine y_2ne (a := t2.1 38) (b := 4) (t := 90) (pc' := 84) dm_X12_read_81 rfl rfl (by omega) (fun hb24 => ?_) (fun hb24 => ?_)
          · refine pg_cast (h2 := rI pre post ((flS t2 56 (Int64.ofInt (tqR (T 0)))).1) ((flS t2 56 (Int64.ofInt (tqR (T 0)))).2.1) ((flS t2 56 (Int64.ofInt (tqR (T 0)))).2.2.1) ((flS t2 56 (Int64.ofInt (tqR (T 0)))).2.2.2)) (by unfold flS; rw [← d41]; try rfl) ?_
            refine me1 (pc' := 91) (L' := [(3, ii 1), (2, ii 0), (0, .ref 102), (1, ii (ln : Int))]) (S' := [.ref 102]) dm_X12_read_90 rfl rfl rfl rfl ?_
            refine x_cn (pc' := 94) (rest := []) dm_X12_read_91 rfl (q_inv (As := []) (S := []) hm rfl rfl rfl) rfl rfl rfl (r_nxt (s := (flS t2 56 (Int64.ofInt (tqR (T 0))))) (i := 0) hm (by omega) (RD_fl56 b2D) (by omega)) ?_
            rintro _ ⟨t3, rfl, k3, t3D⟩
            have F3 : rlF s t3 := rlF_tr F2 (rlF_tr (rlF_fl (Or.inr rfl)) (rlF_d (rdT_tk k3).1))
            have t356 : t3.2.1 56 = (Int64.ofInt (tqR (T 0))) := (k3.2.2.2 56 (by decide)).trans flS_at
            have t352 : t3.1 52 = -1 := (k3.2.2.1 52 (by decide)).trans c52
            have t351 : t3.1 51 = 0 := (k3.2.2.1 51 (by decide)).trans b251
            have t3_3 : t3.1 3 = s.1 3 := (k3.2.2.1 3 (by decide)).trans t2_3
            have t3_4 : t3.1 4 = s.1 4 := (k3.2.2.1 4 (by decide)).trans t2_4
            have t3_50 : t3.1 50 = s.1 50 := (k3.2.2.1 50 (by decide)).trans t2_50
            refine me1 (pc' := 95) (L' := [(3, ii 1), (2, ii 0), (0, .ref 102), (1, ii (ln : Int))]) (S' := [ii 0]) dm_X12_read_94 rfl rfl rfl rfl ?_
            refine me_1t (pc' := 161) dm_X12_read_95 rfl (by decide) ?_
            refine me1 (pc' := 162) (L' := [(3, ii 1), (2, ii 0), (0, .ref 102), (1, ii (ln : Int))]) (S' := [ii 1]) dm_X12_read_161 rfl rfl rfl rfl ?_
            refine me_1f (pc' := 165) dm_X12_read_162 rfl (by decide) rfl ?_
            refine me1 (pc' := 166) (L' := [(3, ii 1), (2, ii 0), (0, .ref 102), (1, ii (ln : Int))]) (S' := [.ref 102]) dm_X12_read_165 rfl rfl rfl rfl ?_
            refine me0 (pc' := 167) (S' := [ii 3, .ref 102]) dm_X12_read_166 rfl rfl rfl rfl ?_
            refine me3 (pc' := 170) (S' := []) (h1 := rI pre post (va_up t3.1 53 3) t3.2.1 t3.2.2.1 t3.2.2.2) dm_X12_read_167 (q_puti hm rfl rfl (fun m i l v => rf_53 m i l v)) rfl rfl rfl ?_
            refine me1 (pc' := 171) (L' := [(3, ii 1), (2, ii 0), (0, .ref 102), (1, ii (ln : Int))]) (S' := [.ref 102]) dm_X12_read_170 rfl rfl rfl rfl ?_
            refine me1 (pc' := 172) (L' := [(3, ii 1), (2, ii 0), (0, .ref 102), (1, ii (ln : Int))]) (S' := [.ref 102, .ref 102]) dm_X12_read_171 rfl rfl rfl rfl ?_
            refine me3 (pc' := 175) (S' := [ii (t3.1 39), .ref 102]) dm_X12_read_172 (q_geti (v := t3.1 39) hm rfl (fun m i l => rg_39 m i l) rfl) rfl rfl rfl ?_
            refine me3 (pc' := 178) (S' := []) (h1 := rI pre post (va_up (va_up t3.1 53 3) 57 (t3.1 39)) t3.2.1 t3.2.2.1 t3.2.2.2) dm_X12_read_175 (q_puti hm rfl rfl (fun m i l v => rf_57 m i l v)) rfl rfl rfl ?_
            have t339 : t3.1 39 = ((tqP (T 1) : Nat) : Int) := by rw [hT]; exact (RD_38 t3D).2
            refine pg_cast (h2 := rI pre post ((fiS (fiS t3 53 3) 57 ((tqP (T 1) : Nat) : Int)).1) ((fiS (fiS t3 53 3) 57 ((tqP (T 1) : Nat) : Int)).2.1) ((fiS (fiS t3 53 3) 57 ((tqP (T 1) : Nat) : Int)).2.2.1) ((fiS (fiS t3 53 3) 57 ((tqP (T 1) : Nat) : Int)).2.2.2)) (by unfold fiS; rw [← t339]; try rfl) ?_
            refine me1 (pc' := 179) (L' := [(3, ii 1), (2, ii 0), (0, .ref 102), (1, ii (ln : Int))]) (S' := [.ref 102]) dm_X12_read_178 rfl rfl rfl rfl ?_
            refine x_cn (pc' := 182) (rest := []) dm_X12_read_179 rfl (q_inv (As := []) (S := []) hm rfl rfl rfl) rfl rfl rfl (r_nxt (s := (fiS (fiS t3 53 3) 57 ((tqP (T 1) : Nat) : Int))) (i := 0 + 1) hm (by omega) (RD_fi (by decide) (RD_fi (by decide) t3D)) (by omega)) ?_
            rintro _ ⟨t4, rfl, k4, t4D⟩
            have F4 : rlF s t4 := rlF_tr F3 (rlF_tr (rlF_fi (by decide)) (rlF_tr (rlF_fi (by decide)) (rlF_d (rdT_tk k4).1)))
            have t456 : t4.2.1 56 = (Int64.ofInt (tqR (T 0))) := (k4.2.2.2 56 (by decide)).trans t356
            have t452 : t4.1 52 = -1 := (k4.2.2.1 52 (by decide)).trans t352
            have t451 : t4.1 51 = ((0 : Nat) : Int) := (k4.2.2.1 51 (by decide)).trans t351
            have t453 : t4.1 53 = 3 := (k4.2.2.1 53 (by decide)).trans ((fi_k (by decide)).trans fi_at)
            have t457 : t4.1 57 = ((tqP (T 1) : Nat) : Int) := (k4.2.2.1 57 (by decide)).trans fi_at
            have t4_3 : t4.1 3 = s.1 3 := (k4.2.2.1 3 (by decide)).trans t3_3
            have t4_4 : t4.1 4 = s.1 4 := (k4.2.2.1 4 (by decide)).trans t3_4
            have t4_50 : t4.1 50 = s.1 50 := (k4.2.2.1 50 (by decide)).trans t3_50
            refine me1 (pc' := 183) (L' := [(3, ii 1), (2, ii 0), (0, .ref 102), (1, ii (ln : Int))]) (S' := [.ref 102]) dm_X12_read_182 rfl rfl rfl rfl ?_
            refine x_cn (pc' := 186) (rest := []) dm_X12_read_183 rfl (q_inv (As := []) (S := []) hm rfl rfl rfl) rfl rfl rfl (r_opensT (s := t4) (i := 2) (o := 0) (hi := mk + 3) hm (by omega) hT hK t4D t451 (by decide) (by omega)) ?_
            rintro _ ⟨t5, rfl, k5, t5D, t551, t552a⟩
            have t553 : t5.1 53 = 3 := (k5.1.2.2.1 53 (by decide)).trans t453
            have t557 : t5.1 57 = ((tqP (T 1) : Nat) : Int) := (k5.1.2.2.1 57 (by decide)).trans t457
            have t556 : t5.2.1 56 = (Int64.ofInt (tqR (T 0))) := (k5.1.2.2.2.1 56 (by decide)).trans t456
            have F5 : rlF s t5 := rlF_tr F4 (rlF_d k5.1)
            have t552 : t5.1 52 = -1 := t552a.trans t452
            have t5_3 : t5.1 3 = s.1 3 := (k5.2.1).trans t4_3
            have t5_4 : t5.1 4 = s.1 4 := (k5.2.2.1).trans t4_4
            have t5_50 : t5.1 50 = s.1 50 := (k5.2.2.2.1).trans t4_50
            have t5RM : RM T ln t5 3 := RM_eq hRM t5_3 t5_4 t5_50 (by omega)
            refine me1 (pc' := 187) (L' := [(3, ii 1), (2, ii 0), (0, .ref 102), (1, ii (ln : Int))]) (S' := [.ref 102]) dm_X12_read_186 rfl rfl rfl rfl ?_
            refine me1 (pc' := 188) (L' := [(3, ii 1), (2, ii 0), (0, .ref 102), (1, ii (ln : Int))]) (S' := [.ref 102, .ref 102]) dm_X12_read_187 rfl rfl rfl rfl ?_
            rcases ea : pR T fuR 0 1 3 with p_ea | j_ea
            · refine x_cv (pc' := 191) (rest := [.ref 102]) dm_X12_read_188 rfl (q_inv (As := []) (S := [.ref 102]) hm rfl rfl rfl) rfl rfl rfl (r_expr_ hm hT hK (hi := mk + 3) (by omega) hTX fuR _ (t5) 3 1 (by omega) t5D t551 t552 t5RM (by omega) (by omega) (by omega)) ?_
              rintro x_t6 h_t6 hxt6
              obtain ⟨t6, t6v, rfl, rfl, t6R, t652, t6E⟩ := RQ_e ea hxt6
              have hplt6 := pR_ln hK _ _ _ _ _ ea
              have bd : 0 ≤ t6.1 52 ∧ t6.1 52 ≤ 1000 := by omega
              have F6 : rlF s t6 := rlF_tr F5 (rlF_d t6R)
              obtain ⟨t6a0, t6b0, t6c0⟩ := id t6E
              have t6a : t6.1 4 + _ ≤ t5.1 4 + _ := t6a0
              have t6b : t6.1 3 + _ ≤ t5.1 3 + _ := t6b0
              have t6c : t6.1 50 + _ ≤ t5.1 50 + _ := t6c0
              refine me3 (pc' := 194) (S' := []) (h1 := rI pre post (va_up t6.1 55 t6v) t6.2.1 t6.2.2.1 t6.2.2.2) dm_X12_read_191 (q_puti hm rfl rfl (fun m i l v => rf_55 m i l v)) rfl rfl rfl ?_
              refine pg_cast (h2 := rI pre post ((fiS t6 55 t6v).1) ((fiS t6 55 t6v).2.1) ((fiS t6 55 t6v).2.2.1) ((fiS t6 55 t6v).2.2.2)) rfl ?_
              refine me1 (pc' := 195) (L' := [(3, ii 1), (2, ii 0), (0, .ref 102), (1, ii (ln : Int))]) (S' := [.ref 102]) dm_X12_read_194 rfl rfl rfl rfl ?_
              refine me0 (pc' := 197) (S' := [ii 41, .ref 102]) dm_X12_read_195 rfl rfl rfl rfl ?_
              refine x_cn (pc' := 200) (rest := []) dm_X12_read_197 rfl (q_inv (As := [ii 41]) (S := []) hm rfl rfl rfl) rfl rfl rfl (r_closesB (s := (fiS t6 55 t6v)) hm (by omega) (by rw [fi_k (by decide)]; exact bd)) ?_
              rintro _ ⟨t7, rfl, kt7, t752a⟩
              have t7_3 : t7.1 3 = t6.1 3 := kt7.2.1
              have t7_4 : t7.1 4 = t6.1 4 := kt7.2.2.1
              have t7_50 : t7.1 50 = t6.1 50 := kt7.2.2.2.1
              have F7 : rlF s t7 := rlF_tr (rlF_tr F6 (rlF_fi (k := 55) (x := t6v) (by decide))) (rlF_d kt7.1)
              have t752 : t7.1 52 = t6.1 52 := t752a
              replace bd : 0 ≤ t7.1 52 ∧ t7.1 52 ≤ 1000 := by omega
              refine me1 (pc' := 201) (L' := [(3, ii 1), (2, ii 0), (0, .ref 102), (1, ii (ln : Int))]) (S' := [.ref 102]) dm_X12_read_200 rfl rfl rfl rfl ?_
              refine me0 (pc' := 203) (S' := [ii 58, .ref 102]) dm_X12_read_201 rfl rfl rfl rfl ?_
              refine x_cn (pc' := 206) (rest := []) dm_X12_read_203 rfl (q_inv (As := [ii 58]) (S := []) hm rfl rfl rfl) rfl rfl rfl (r_needsB (s := t7) hm (by omega) bd) ?_
              rintro _ rfl
              refine me1 (pc' := 207) (L' := [(3, ii 1), (2, ii 0), (0, .ref 102), (1, ii (ln : Int))]) (S' := [.ref 102]) dm_X12_read_206 rfl rfl rfl rfl ?_
              refine me1 (pc' := 208) (L' := [(3, ii 1), (2, ii 0), (0, .ref 102), (1, ii (ln : Int))]) (S' := [.ref 102, .ref 102]) dm_X12_read_207 rfl rfl rfl rfl ?_
              refine x_cv (pc' := 211) (rest := [.ref 102]) dm_X12_read_208 rfl (q_inv (As := []) (S := [.ref 102]) hm rfl rfl rfl) rfl rfl rfl (r_exprB (s := t7) hm (by omega) bd) ?_
              rintro _ _ ⟨rfl, rfl⟩
              refine me3 (pc' := 214) (S' := []) (h1 := rI pre post (va_up t7.1 54 (-1)) t7.2.1 t7.2.2.1 t7.2.2.2) dm_X12_read_211 (q_puti hm rfl rfl (fun m i l v => rf_54 m i l v)) rfl rfl rfl ?_
              refine pg_cast (h2 := rI pre post ((fiS t7 54 (-1)).1) ((fiS t7 54 (-1)).2.1) ((fiS t7 54 (-1)).2.2.1) ((fiS t7 54 (-1)).2.2.2)) rfl ?_
              refine me2 (pc' := 225) (S' := []) dm_X12_read_214 rfl rfl rfl ?_
              refine me1 (pc' := 226) (L' := [(3, ii 1), (2, ii 0), (0, .ref 102), (1, ii (ln : Int))]) (S' := [.ref 102]) dm_X12_read_225 rfl rfl rfl rfl ?_
              refine me3 (pc' := 229) (S' := [ii (((fiS t7 54 (-1)).1) 52)]) dm_X12_read_226 (q_geti (v := ((fiS t7 54 (-1)).1) 52) hm rfl (fun m i l => rg_52 m i l) rfl) rfl rfl rfl ?_
              refine y_1ge (a := ((fiS t7 54 (-1)).1) 52) (t := 244) (pc' := 232) dm_X12_read_229 rfl rfl (by rw [fi_k (by decide)]; omega) (fun hb25 => ?_) (fun hb25 => ?_)
              · refine y_ret (r := none) dm_X12_read_244 rfl rfl rfl ?_
                exact ⟨rfl, RRL_e (liR_a (liA_e hw hls ea)) (rlF_tr F7 (rlF_fi (k := 54) (x := -1) (by decide))) (by rw [fi_k (by decide)]; omega) (by rw [fi_k (by decide)]; omega) (by rw [fi_k (by decide)]; omega) (by rw [fi_k (by decide)]; omega)⟩
              · exfalso; rw [fi_k (by decide)] at hb25; omega
            · refine x_cv (pc' := 191) (rest := [.ref 102]) dm_X12_read_188 rfl (q_inv (As := []) (S := [.ref 102]) hm rfl rfl rfl) rfl rfl rfl (r_expr_ hm hT hK (hi := mk + 3) (by omega) hTX fuR _ (t5) 3 1 (by omega) t5D t551 t552 t5RM (by omega) (by omega) (by omega)) ?_
              rintro x_t6 h_t6 hxt6
              obtain ⟨t6, rfl, t6R, t6D, t651, t652, t6M, nea, Bea, rfl, t6p, t6q, t6B, t6C⟩ := RQ_v ea hxt6
              have t6M : RMd T (t5) t6 3 j_ea 0 (-1) := t6M
              have hjea := pR_mk hK _ 0 _ _ _ (show 3 ≤ mk by omega) ea
              have hjjea := hjea.2.2 (by decide)
              have P_ea := P_ln hK j_ea
              have F6 : rlF s t6 := rlF_tr F5 (rlF_d t6R)
              have t6p : t5.1 50 ≤ _ := t6p
              obtain ⟨t6a0, t6b0, t6c0⟩ := id t6M
              have t6a : t6.1 4 + _ ≤ t5.1 4 + _ := t6a0
              have t6b : t6.1 3 + _ ≤ t5.1 3 + _ := t6b0
              have t6c : t6.1 50 + _ + _ ≤ t5.1 50 + _ ∧ 2 * t6.1 4 + _ + _ ≤ 2 * t5.1 4 + _ := t6c0
              have t638 : t6.1 38 = ((tqS (T j_ea) : Nat) : Int) := by rw [hT]; exact (RD_38 t6D).1
              have t639 : t6.1 39 = ((tqP (T j_ea) : Nat) : Int) := by rw [hT]; exact (RD_38 t6D).2
              have t68 : tqS (T j_ea) ≤ 8 := by rw [hT]; exact tkI_8
              refine me3 (pc' := 194) (S' := []) (h1 := rI pre post (va_up t6.1 55 (nea : Int)) t6.2.1 t6.2.2.1 t6.2.2.2) dm_X12_read_191 (q_puti hm rfl rfl (fun m i l v => rf_55 m i l v)) rfl rfl rfl ?_
              refine pg_cast (h2 := rI pre post ((fiS t6 55 (nea : Int)).1) ((fiS t6 55 (nea : Int)).2.1) ((fiS t6 55 (nea : Int)).2.2.1) ((fiS t6 55 (nea : Int)).2.2.2)) rfl ?_
              refine me1 (pc' := 195) (L' := [(3, ii 1), (2, ii 0), (0, .ref 102), (1, ii (ln : Int))]) (S' := [.ref 102]) dm_X12_read_194 rfl rfl rfl rfl ?_
              refine me0 (pc' := 197) (S' := [ii 41, .ref 102]) dm_X12_read_195 rfl rfl rfl rfl ?_
              by_cases hm41 : isMk T j_ea 41
              · have lhm41 := TOKS_lt hK (i := j_ea) (by have := hm41.1; omega)
                have Phm41 := hK.2.2.2.2.2.2.1 j_ea lhm41
                refine x_cn (pc' := 200) (rest := []) dm_X12_read_197 rfl (q_inv (As := [ii 41]) (S := []) hm rfl rfl rfl) rfl rfl rfl (r_closesT (s := (fiS t6 55 (nea : Int))) (i := j_ea) (o := 0) hm (by omega) hT hK (RD_fi (by decide) t6D) (by decide) ((fi_k (by decide)).trans t651) ((fi_k (by decide)).trans t652) hm41 (by omega)) ?_
                rintro _ ⟨t7, rfl, kt7, t7D, t751, t752⟩
                have t7_3 : t7.1 3 = t6.1 3 := kt7.2.1
                have t7_4 : t7.1 4 = t6.1 4 := kt7.2.2.1
                have t7_50 : t7.1 50 = t6.1 50 := kt7.2.2.2.1
                have F7 : rlF s t7 := rlF_tr (rlF_tr F6 (rlF_fi (k := 55) (x := (nea : Int)) (by decide))) (rlF_d kt7.1)
                have t738 : t7.1 38 = ((tqS (T (j_ea + 1)) : Nat) : Int) := by rw [hT]; exact (RD_38 t7D).1
                have t739 : t7.1 39 = ((tqP (T (j_ea + 1)) : Nat) : Int) := by rw [hT]; exact (RD_38 t7D).2
                have t78 : tqS (T (j_ea + 1)) ≤ 8 := by rw [hT]; exact tkI_8
                refine me1 (pc' := 201) (L' := [(3, ii 1), (2, ii 0), (0, .ref 102), (1, ii (ln : Int))]) (S' := [.ref 102]) dm_X12_read_200 rfl rfl rfl rfl ?_
                refine me0 (pc' := 203) (S' := [ii 58, .ref 102]) dm_X12_read_201 rfl rfl rfl rfl ?_
                by_cases hm58 : isMk T (j_ea + 1) 58
                · have lhm58 := TOKS_lt hK (i := j_ea + 1) (by have := hm58.1; omega)
                  have Phm58 := hK.2.2.2.2.2.2.1 (j_ea + 1) lhm58
                  refine x_cn (pc' := 206) (rest := []) dm_X12_read_203 rfl (q_inv (As := [ii 58]) (S := []) hm rfl rfl rfl) rfl rfl rfl (r_needsT (s := t7) (i := j_ea + 1) hm (by omega) hT hK t7D (by decide) t752 hm58 (by omega)) ?_
                  rintro _ ⟨t8, rfl, kt8, t8D, t8510, t852⟩
                  have t8_3 : t8.1 3 = t7.1 3 := kt8.2.1
                  have t8_4 : t8.1 4 = t7.1 4 := kt8.2.2.1
                  have t8_50 : t8.1 50 = t7.1 50 := kt8.2.2.2.1
                  have F8 : rlF s t8 := rlF_tr F7 (rlF_d kt8.1)
                  have t851 : t8.1 51 = ((0 : Nat) : Int) := t8510.trans t751
                  have t8RM : RM T ln t8 (j_ea + 1 + 1) := RM_eq (s := t6) (i := j_ea) (RM_d t5RM t6R t6M (by decide)) (by omega) (by omega) (by omega) (by omega)
                  refine me1 (pc' := 207) (L' := [(3, ii 1), (2, ii 0), (0, .ref 102), (1, ii (ln : Int))]) (S' := [.ref 102]) dm_X12_read_206 rfl rfl rfl rfl ?_
                  refine me1 (pc' := 208) (L' := [(3, ii 1), (2, ii 0), (0, .ref 102), (1, ii (ln : Int))]) (S' := [.ref 102, .ref 102]) dm_X12_read_207 rfl rfl rfl rfl ?_
                  rcases eb : pR T fuR 0 0 (j_ea + 1 + 1) with p_eb | j_eb
                  · refine x_cv (pc' := 211) (rest := [.ref 102]) dm_X12_read_208 rfl (q_inv (As := []) (S := [.ref 102]) hm rfl rfl rfl) rfl rfl rfl (r_expr_ hm hT hK (hi := mk + 3) (by omega) hTX fuR _ (t8) (j_ea + 1 + 1) 0 (by omega) t8D t851 t852 t8RM (by omega) (by omega) (by omega)) ?_
                    rintro x_t9 h_t9 hxt9
                    obtain ⟨t9, t9v, rfl, rfl, t9R, t952, t9E⟩ := RQ_e eb hxt9
                    have hplt9 := pR_ln hK _ _ _ _ _ eb
                    have bd : 0 ≤ t9.1 52 ∧ t9.1 52 ≤ 1000 := by omega
                    have F9 : rlF s t9 := rlF_tr F8 (rlF_d t9R)
                    obtain ⟨t9a0, t9b0, t9c0⟩ := id t9E
                    have t9a : t9.1 4 + _ ≤ t8.1 4 + _ := t9a0
                    have t9b : t9.1 3 + _ ≤ t8.1 3 + _ := t9b0
                    have t9c : t9.1 50 + _ ≤ t8.1 50 + _ := t9c0
                    refine me3 (pc' := 214) (S' := []) (h1 := rI pre post (va_up t9.1 54 t9v) t9.2.1 t9.2.2.1 t9.2.2.2) dm_X12_read_211 (q_puti hm rfl rfl (fun m i l v => rf_54 m i l v)) rfl rfl rfl ?_
                    refine pg_cast (h2 := rI pre post ((fiS t9 54 t9v).1) ((fiS t9 54 t9v).2.1) ((fiS t9 54 t9v).2.2.1) ((fiS t9 54 t9v).2.2.2)) rfl ?_
                    refine me2 (pc' := 225) (S' := []) dm_X12_read_214 rfl rfl rfl ?_
                    refine me1 (pc' := 226) (L' := [(3, ii 1), (2, ii 0), (0, .ref 102), (1, ii (ln : Int))]) (S' := [.ref 102]) dm_X12_read_225 rfl rfl rfl rfl ?_
                    refine me3 (pc' := 229) (S' := [ii (((fiS t9 54 t9v).1) 52)]) dm_X12_read_226 (q_geti (v := ((fiS t9 54 t9v).1) 52) hm rfl (fun m i l => rg_52 m i l) rfl) rfl rfl rfl ?_
                    refine y_1ge (a := ((fiS t9 54 t9v).1) 52) (t := 244) (pc' := 232) dm_X12_read_229 rfl rfl (by rw [fi_k (by decide)]; omega) (fun hb26 => ?_) (fun hb26 => ?_)
                    · refine y_ret (r := none) dm_X12_read_244 rfl rfl rfl ?_
                      exact ⟨rfl, RRL_e (liR_x (liA_v hw hls ea hm41 hm58) (liX_en (by omega) eb)) (rlF_tr F9 (rlF_fi (k := 54) (x := t9v) (by decide))) (by rw [fi_k (by decide)]; omega) (by rw [fi_k (by decide)]; omega) (by rw [fi_k (by decide)]; omega) (by rw [fi_k (by decide)]; omega)⟩
                    · exfalso; rw [fi_k (by decide)] at hb26; omega
                  · refine x_cv (pc' := 211) (rest := [.ref 102]) dm_X12_read_208 rfl (q_inv (As := []) (S := [.ref 102]) hm rfl rfl rfl) rfl rfl rfl (r_expr_ hm hT hK (hi := mk + 3) (by omega) hTX fuR _ (t8) (j_ea + 1 + 1) 0 (by omega) t8D t851 t852 t8RM (by omega) (by omega) (by omega)) ?_
                    rintro x_t9 h_t9 hxt9
                    obtain ⟨t9, rfl, t9R, t9D, t951, t952, t9M, neb, Beb, rfl, t9p, t9q, t9B, t9C⟩ := RQ_v eb hxt9
                    have t9M : RMd T (t8) t9 (j_ea + 1 + 1) j_eb 0 (-1) := t9M
                    have hjeb := pR_mk hK _ 0 _ _ _ (show j_ea + 1 + 1 ≤ mk by omega) eb
                    have hjjeb := hjeb.2.2 (by decide)
                    have P_eb := P_ln hK j_eb
                    have F9 : rlF s t9 := rlF_tr F8 (rlF_d t9R)
                    have t9p : t8.1 50 ≤ _ := t9p
                    obtain ⟨t9a0, t9b0, t9c0⟩ := id t9M
                    have t9a : t9.1 4 + _ ≤ t8.1 4 + _ := t9a0
                    have t9b : t9.1 3 + _ ≤ t8.1 3 + _ := t9b0
                    have t9c : t9.1 50 + _ + _ ≤ t8.1 50 + _ ∧ 2 * t9.1 4 + _ + _ ≤ 2 * t8.1 4 + _ := t9c0
                    have t938 : t9.1 38 = ((tqS (T j_eb) : Nat) : Int) := by rw [hT]; exact (RD_38 t9D).1
                    have t939 : t9.1 39 = ((tqP (T j_eb) : Nat) : Int) := by rw [hT]; exact (RD_38 t9D).2
                    have t98 : tqS (T j_eb) ≤ 8 := by rw [hT]; exact tkI_8
                    refine me3 (pc' := 214) (S' := []) (h1 := rI pre post (va_up t9.1 54 (neb : Int)) t9.2.1 t9.2.2.1 t9.2.2.2) dm_X12_read_211 (q_puti hm rfl rfl (fun m i l v => rf_54 m i l v)) rfl rfl rfl ?_
                    refine pg_cast (h2 := rI pre post ((fiS t9 54 (neb : Int)).1) ((fiS t9 54 (neb : Int)).2.1) ((fiS t9 54 (neb : Int)).2.2.1) ((fiS t9 54 (neb : Int)).2.2.2)) rfl ?_
                    refine me2 (pc' := 225) (S' := []) dm_X12_read_214 rfl rfl rfl ?_
                    refine me1 (pc' := 226) (L' := [(3, ii 1), (2, ii 0), (0, .ref 102), (1, ii (ln : Int))]) (S' := [.ref 102]) dm_X12_read_225 rfl rfl rfl rfl ?_
                    refine me3 (pc' := 229) (S' := [ii (((fiS t9 54 (neb : Int)).1) 52)]) dm_X12_read_226 (q_geti (v := ((fiS t9 54 (neb : Int)).1) 52) hm rfl (fun m i l => rg_52 m i l) rfl) rfl rfl rfl ?_
                    refine y_1ge (a := ((fiS t9 54 (neb : Int)).1) 52) (t := 244) (pc' := 232) dm_X12_read_229 rfl rfl (by rw [fi_k (by decide)]; omega) (fun hb27 => ?_) (fun hb27 => ?_)
                    · exfalso; rw [fi_k (by decide)] at hb27; omega
                    · refine me1 (pc' := 233) (L' := [(3, ii 1), (2, ii 0), (0, .ref 102), (1, ii (ln : Int))]) (S' := [.ref 102]) dm_X12_read_232 rfl rfl rfl rfl ?_
                      refine me3 (pc' := 236) (S' := [ii (((fiS t9 54 (neb : Int)).1) 38)]) dm_X12_read_233 (q_geti (v := ((fiS t9 54 (neb : Int)).1) 38) hm rfl (fun m i l => rg_38 m i l) rfl) rfl rfl rfl ?_
                      refine y_1eq (a := ((fiS t9 54 (neb : Int)).1) 38) (t := 244) (pc' := 239) dm_X12_read_236 rfl rfl (by rw [fi_k (by decide)]; omega) (fun hb28 => ?_) (fun hb28 => ?_)
                      · rw [fi_k (by decide)] at hb28
                        refine y_ret (r := none) dm_X12_read_244 rfl rfl rfl ?_
                        have h753 : t7.1 53 = 3 := (kt7.1.2.2.1 53 (by decide)).trans ((fi_k (by decide)).trans ((t6R.2.2.1 53 (by decide)).trans t553))
                        have h953 : t9.1 53 = 3 := (t9R.2.2.1 53 (by decide)).trans ((kt8.1.2.2.1 53 (by decide)).trans h753)
                        have h756 : t7.2.1 56 = (Int64.ofInt (tqR (T 0))) := (kt7.1.2.2.2.1 56 (by decide)).trans ((t6R.2.2.2.1 56 (by decide)).trans t556)
                        have h956 : t9.2.1 56 = (Int64.ofInt (tqR (T 0))) := (t9R.2.2.2.1 56 (by decide)).trans ((kt8.1.2.2.2.1 56 (by decide)).trans h756)
                        have h755 : t7.1 55 = (nea : Int) := (kt7.1.2.2.1 55 (by decide)).trans fi_at
                        have h955 : t9.1 55 = (nea : Int) := (t9R.2.2.1 55 (by decide)).trans ((kt8.1.2.2.1 55 (by decide)).trans h755)
                        have h757 : t7.1 57 = ((tqP (T 1) : Nat) : Int) := (kt7.1.2.2.1 57 (by decide)).trans ((fi_k (by decide)).trans ((t6R.2.2.1 57 (by decide)).trans t557))
                        have h957 : t9.1 57 = ((tqP (T 1) : Nat) : Int) := (t9R.2.2.1 57 (by decide)).trans ((kt8.1.2.2.1 57 (by decide)).trans h757)
                        have hsp : rR t9 T fuR 0 1 3 Beb nea (-1) := rR_k _ _ _ _ _ _ _ _ _ _ (ndK_d (rdR_tr kt7.1 (rdR_tr kt8.1 t9R)) (show ((Bea : Nat) : Int) ≤ (fiS t6 55 (nea : Int)).1 50 by rw [fi_k (by decide)]; omega)) (by omega) (rR_k _ _ _ _ _ _ _ _ _ _ (ndK_fi (by decide)) (Nat.le_refl _) t6C)
                        exact ⟨rfl, RRL_v (o := 0) (rt := neb) (B := Beb) (liR_v (liA_v hw hls ea hm41 hm58) ((liX_vn (by omega) eb).trans (liE_0 (by omega)))) (rlF_tr F9 (rlF_fi (k := 54) (x := (neb : Int)) (by decide))) (by rw [fi_k (by decide)]; omega) (by rw [fi_k (by decide)]; omega) (by rw [fi_k (by decide)]; omega) ((fi_k (by decide)).trans t952) ((fi_k (by decide)).trans (h953.trans hlz.symm)) (fun _ => h956) fi_at ((fi_k (by decide)).trans t9B) (by omega) t9q (by rw [hls]; rfl) (rR_k _ _ _ _ _ _ _ _ _ _ (ndK_fi (by decide)) (Nat.le_refl _) t9C) (fun _ => ⟨(fi_k (by decide)).trans h957, nea, (fi_k (by decide)).trans h955, by omega, rR_k _ _ _ _ _ _ _ _ _ _ (ndK_fi (by decide)) (Nat.le_refl _) hsp⟩) (by rw [fi_k (by decide)]; omega)⟩
                      · rw [fi_k (by decide)] at hb28
                        refine me1 (pc' := 240) (L' := [(3, ii 1), (2, ii 0), (0, .ref 102), (1, ii (ln : Int))]) (S' := [.ref 102]) dm_X12_read_239 rfl rfl rfl rfl ?_
                        refine x_cv (pc' := 243) (rest := []) dm_X12_read_240 rfl (q_inv (As := []) (S := []) hm rfl rfl rfl) rfl rfl rfl (r_wrong_ (s := (fiS t9 54 (neb : Int))) hm (by omega) (by rw [fi_k (by decide)]; omega)) ?_
                        rintro _ _ ⟨rfl, rfl⟩
                        refine me0 (pc' := 244) (S' := []) dm_X12_read_243 rfl rfl rfl rfl ?_
                        refine y_ret (r := none) dm_X12_read_244 rfl rfl rfl ?_
                        exact ⟨rfl, RRL_e (liR_x (liA_v hw hls ea hm41 hm58) ((liX_vn (by omega) eb).trans (liE_1 (by omega)))) (rlF_tr (rlF_tr F9 (rlF_fi (k := 54) (x := (neb : Int)) (by decide))) (rlF_d (rdT_wr _).1)) (by rw [(rdT_wr _).2.2.1]; rw [fi_k (by decide)]; omega) (by rw [(rdT_wr _).2.1]; rw [fi_k (by decide)]; omega) (by rw [(rdT_wr _).2.2.2.1]; rw [fi_k (by decide)]; omega) ((wr_52 (by rw [fi_k (by decide)]; omega)).trans ((fi_k (by decide)).trans t939))⟩
                · refine x_cn (pc' := 206) (rest := []) dm_X12_read_203 rfl (q_inv (As := [ii 58]) (S := []) hm rfl rfl rfl) rfl rfl rfl (r_needsF (s := t7) (i := j_ea + 1) hm (by omega) hT hK t7D (by decide) t752 hm58) ?_
                  rintro _ ⟨t8, rfl, kt8, t852⟩
                  have t8_3 : t8.1 3 = t7.1 3 := kt8.2.1
                  have t8_4 : t8.1 4 = t7.1 4 := kt8.2.2.1
                  have t8_50 : t8.1 50 = t7.1 50 := kt8.2.2.2.1
                  have F8 : rlF s t8 := rlF_tr F7 (rlF_d kt8.1)
                  have bd : 0 ≤ t8.1 52 ∧ t8.1 52 ≤ 1000 := by have := P_ln hK (j_ea + 1); omega
                  refine me1 (pc' := 207) (L' := [(3, ii 1), (2, ii 0), (0, .ref 102), (1, ii (ln : Int))]) (S' := [.ref 102]) dm_X12_read_206 rfl rfl rfl rfl ?_
                  refine me1 (pc' := 208) (L' := [(3, ii 1), (2, ii 0), (0, .ref 102), (1, ii (ln : Int))]) (S' := [.ref 102, .ref 102]) dm_X12_read_207 rfl rfl rfl rfl ?_
                  refine x_cv (pc' := 211) (rest := [.ref 102]) dm_X12_read_208 rfl (q_inv (As := []) (S := [.ref 102]) hm rfl rfl rfl) rfl rfl rfl (r_exprB (s := t8) hm (by omega) bd) ?_
                  rintro _ _ ⟨rfl, rfl⟩
                  refine me3 (pc' := 214) (S' := []) (h1 := rI pre post (va_up t8.1 54 (-1)) t8.2.1 t8.2.2.1 t8.2.2.2) dm_X12_read_211 (q_puti hm rfl rfl (fun m i l v => rf_54 m i l v)) rfl rfl rfl ?_
                  refine pg_cast (h2 := rI pre post ((fiS t8 54 (-1)).1) ((fiS t8 54 (-1)).2.1) ((fiS t8 54 (-1)).2.2.1) ((fiS t8 54 (-1)).2.2.2)) rfl ?_
                  refine me2 (pc' := 225) (S' := []) dm_X12_read_214 rfl rfl rfl ?_
                  refine me1 (pc' := 226) (L' := [(3, ii 1), (2, ii 0), (0, .ref 102), (1, ii (ln : Int))]) (S' := [.ref 102]) dm_X12_read_225 rfl rfl rfl rfl ?_
                  refine me3 (pc' := 229) (S' := [ii (((fiS t8 54 (-1)).1) 52)]) dm_X12_read_226 (q_geti (v := ((fiS t8 54 (-1)).1) 52) hm rfl (fun m i l => rg_52 m i l) rfl) rfl rfl rfl ?_
                  refine y_1ge (a := ((fiS t8 54 (-1)).1) 52) (t := 244) (pc' := 232) dm_X12_read_229 rfl rfl (by rw [fi_k (by decide)]; omega) (fun hb29 => ?_) (fun hb29 => ?_)
                  · refine y_ret (r := none) dm_X12_read_244 rfl rfl rfl ?_
                    exact ⟨rfl, RRL_e (liR_a (liA_y hw hls ea hm41 hm58)) (rlF_tr F8 (rlF_fi (k := 54) (x := -1) (by decide))) (by rw [fi_k (by decide)]; omega) (by rw [fi_k (by decide)]; omega) (by rw [fi_k (by decide)]; omega) (by rw [fi_k (by decide)]; omega)⟩
                  · exfalso; rw [fi_k (by decide)] at hb29; omega
              · refine x_cn (pc' := 200) (rest := []) dm_X12_read_197 rfl (q_inv (As := [ii 41]) (S := []) hm rfl rfl rfl) rfl rfl rfl (r_closesF (s := (fiS t6 55 (nea : Int))) (i := j_ea) hm (by omega) hT hK (RD_fi (by decide) t6D) (by decide) ((fi_k (by decide)).trans t652) hm41) ?_
                rintro _ ⟨t7, rfl, kt7, t752⟩
                have t7_3 : t7.1 3 = t6.1 3 := kt7.2.1
                have t7_4 : t7.1 4 = t6.1 4 := kt7.2.2.1
                have t7_50 : t7.1 50 = t6.1 50 := kt7.2.2.2.1
                have F7 : rlF s t7 := rlF_tr (rlF_tr F6 (rlF_fi (k := 55) (x := (nea : Int)) (by decide))) (rlF_d kt7.1)
                have bd : 0 ≤ t7.1 52 ∧ t7.1 52 ≤ 1000 := by have := P_ln hK (j_ea); omega
                refine me1 (pc' := 201) (L' := [(3, ii 1), (2, ii 0), (0, .ref 102), (1, ii (ln : Int))]) (S' := [.ref 102]) dm_X12_read_200 rfl rfl rfl rfl ?_
                refine me0 (pc' := 203) (S' := [ii 58, .ref 102]) dm_X12_read_201 rfl rfl rfl rfl ?_
                refine x_cn (pc' := 206) (rest := []) dm_X12_read_203 rfl (q_inv (As := [ii 58]) (S := []) hm rfl rfl rfl) rfl rfl rfl (r_needsB (s := t7) hm (by omega) bd) ?_
                rintro _ rfl
                refine me1 (pc' := 207) (L' := [(3, ii 1), (2, ii 0), (0, .ref 102), (1, ii (ln : Int))]) (S' := [.ref 102]) dm_X12_read_206 rfl rfl rfl rfl ?_
                refine me1 (pc' := 208) (L' := [(3, ii 1), (2, ii 0), (0, .ref 102), (1, ii (ln : Int))]) (S' := [.ref 102, .ref 102]) dm_X12_read_207 rfl rfl rfl rfl ?_
                refine x_cv (pc' := 211) (rest := [.ref 102]) dm_X12_read_208 rfl (q_inv (As := []) (S := [.ref 102]) hm rfl rfl rfl) rfl rfl rfl (r_exprB (s := t7) hm (by omega) bd) ?_
                rintro _ _ ⟨rfl, rfl⟩
                refine me3 (pc' := 214) (S' := []) (h1 := rI pre post (va_up t7.1 54 (-1)) t7.2.1 t7.2.2.1 t7.2.2.2) dm_X12_read_211 (q_puti hm rfl rfl (fun m i l v => rf_54 m i l v)) rfl rfl rfl ?_
                refine pg_cast (h2 := rI pre post ((fiS t7 54 (-1)).1) ((fiS t7 54 (-1)).2.1) ((fiS t7 54 (-1)).2.2.1) ((fiS t7 54 (-1)).2.2.2)) rfl ?_
                refine me2 (pc' := 225) (S' := []) dm_X12_read_214 rfl rfl rfl ?_
                refine me1 (pc' := 226) (L' := [(3, ii 1), (2, ii 0), (0, .ref 102), (1, ii (ln : Int))]) (S' := [.ref 102]) dm_X12_read_225 rfl rfl rfl rfl ?_
                refine me3 (pc' := 229) (S' := [ii (((fiS t7 54 (-1)).1) 52)]) dm_X12_read_226 (q_geti (v := ((fiS t7 54 (-1)).1) 52) hm rfl (fun m i l => rg_52 m i l) rfl) rfl rfl rfl ?_
                refine y_1ge (a := ((fiS t7 54 (-1)).1) 52) (t := 244) (pc' := 232) dm_X12_read_229 rfl rfl (by rw [fi_k (by decide)]; omega) (fun hb30 => ?_) (fun hb30 => ?_)
                · refine y_ret (r := none) dm_X12_read_244 rfl rfl rfl ?_
                  exact ⟨rfl, RRL_e (liR_a (liA_x hw hls ea hm41)) (rlF_tr F7 (rlF_fi (k := 54) (x := -1) (by decide))) (by rw [fi_k (by decide)]; omega) (by rw [fi_k (by decide)]; omega) (by rw [fi_k (by decide)]; omega) (by rw [fi_k (by decide)]; omega)⟩
                · exfalso; rw [fi_k (by decide)] at hb30; omega
          · exfalso; omega
