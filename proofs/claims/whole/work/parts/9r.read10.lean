/-! the Ops of a line -/
def cL (A : Nat → Prop) (h : mj_H) (T : Nat → Tok) (a op : Nat) : Prop :=
  if liS T = 3 then ∃ op1 am am2, fzC A h am (opC 2 (tqP (T 0) : Int) 0 (Int64.ofInt (tqD (T 0))) 0 0 0 .null (.ref am2) .null) ∧ fzC A h am2 (opC 7 (tqP (T 1) : Int) 0 (Int64.ofInt 0) 0 0 0 .null .null .null) ∧ cR A h T fuR 0 1 3 op1 (some am) 0 0 ∧ cR A h T fuR 0 0 a op (some op1) 0 0
  else cR A h T fuR 0 (if liS T = 2 then 1 else 0) a op none 0 0
/-- what reading a line leaves -/
def RL (A : Nat → Prop) (h : mj_H) (T : Nat → Tok) (ln : Nat) (x : Value) (h' : mj_H) : Prop :=
  ∃ (at_ wr : Int) (st tl : Value), h'[13]? = some (rdC at_ wr ((liS T : Nat) : Int) (Int64.ofInt (tqD (T 0))) st tl) ∧ rdF h h' 13 ∧ h'.length ≤ h.length + 4 * ln + 3 ∧ mj_sl h' ≤ mj_sl h + 40 * ln + 30 ∧ (match liR T with
    | .inl p => x = ii 0 ∧ wr = (p : Int)
    | .inr a => x = ii 1 ∧ ∃ op, st = .ref op ∧ (2 ≤ op ∧ h.length ≤ op ∧ op < h'.length) ∧ cL (newA A h h') h' T a op)
section RLs
variable {A : Nat → Prop} {h h' : mj_H} {T : Nat → Tok} {ln p a k op : Nat} {ls at_ wr : Int} {st tl : Value}
theorem RL_e (hls : ((liS T : Nat) : Int) = ls) (e : liR T = .inl p) (h1 : h'[13]? = some (rdC at_ (p : Int) ls (Int64.ofInt (tqD (T 0))) st tl)) (h2 : rdF h h' 13) (h3 : h'.length ≤ h.length + 4 * ln + 3) (h4 : mj_sl h' ≤ mj_sl h + 40 * ln + 30) : RL A h T ln (ii 0) h' := by
  refine ⟨at_, p, st, tl, by rw [hls]; exact h1, h2, h3, h4, ?_⟩
  rw [e]
  exact ⟨rfl, rfl⟩
theorem RL_v (hls : ((liS T : Nat) : Int) = ls) (e : liR T = .inr a) (h1 : h'[13]? = some (rdC at_ wr ls (Int64.ofInt (tqD (T 0))) (.ref op) tl)) (h2 : rdF h h' 13) (h3 : h'.length ≤ h.length + 4 * ln + 3) (h4 : mj_sl h' ≤ mj_sl h + 40 * ln + 30) (hop : 2 ≤ op ∧ h.length ≤ op ∧ op < h'.length) (hc : cL (newA A h h') h' T a op) : RL A h T ln (ii 1) h' := by
  refine ⟨at_, wr, .ref op, tl, by rw [hls]; exact h1, h2, h3, h4, ?_⟩
  rw [e]
  exact ⟨rfl, op, rfl, hop, hc⟩
abbrev liW (T : Nat → Tok) : Prop := liS T ≠ 0 ∧ (ownN T ∨ (liS T = 3 ∧ tqS (T 0) = 4))
theorem liR_a (e : liA T = .inl p) : liR T = .inl p := by unfold liR; rw [e]
theorem liR_x (e : liA T = .inr a) (x : liX T a = .inl p) : liR T = .inl p := by unfold liR; rw [e]; simp only; rw [x]
theorem liR_v (e : liA T = .inr a) (x : liX T a = .inr k) : liR T = .inr a := by unfold liR; rw [e]; simp only; rw [x]
theorem liA_w (hw : liW T) : liA T = .inl (tqP (T 0)) := by unfold liA; rw [if_pos hw]
theorem liA_3 (hw : ¬ liW T) (h3 : liS T = 3) : liA T = (match pR T fuR 0 1 3 with
    | .inl p => .inl p
    | .inr j => if isMk T j 41 then (if isMk T (j + 1) 58 then .inr (j + 2) else .inl (tqP (T (j + 1)))) else .inl (tqP (T j))) := by unfold liA; rw [if_neg hw, if_pos h3]; rfl
theorem liA_e (hw : ¬ liW T) (h3 : liS T = 3) (e : pR T fuR 0 1 3 = .inl p) : liA T = .inl p := by rw [liA_3 hw h3, e]
theorem liA_x (hw : ¬ liW T) (h3 : liS T = 3) (e : pR T fuR 0 1 3 = .inr k) (hm : ¬ isMk T k 41) : liA T = .inl (tqP (T k)) := by
  rw [liA_3 hw h3, e]; exact if_neg hm
theorem liA_y (hw : ¬ liW T) (h3 : liS T = 3) (e : pR T fuR 0 1 3 = .inr k) (hm : isMk T k 41) (hm2 : ¬ isMk T (k + 1) 58) : liA T = .inl (tqP (T (k + 1))) := by
  rw [liA_3 hw h3, e]; exact (if_pos hm).trans (if_neg hm2)
theorem liA_v (hw : ¬ liW T) (h3 : liS T = 3) (e : pR T fuR 0 1 3 = .inr k) (hm : isMk T k 41) (hm2 : isMk T (k + 1) 58) : liA T = .inr (k + 2) := by
  rw [liA_3 hw h3, e]; exact (if_pos hm).trans (if_pos hm2)
theorem liA_2 (hw : ¬ liW T) (h2 : liS T = 2) : liA T = .inr 3 := by unfold liA; rw [if_neg hw, if_neg (by omega), if_pos h2]
theorem liA_1 (hw : ¬ liW T) (h2 : liS T = 1) : liA T = .inr 2 := by unfold liA; rw [if_neg hw, if_neg (by omega), if_neg (by omega), if_pos h2]
theorem liA_0 (h2 : liS T = 0) : liA T = .inr 0 := by unfold liA; rw [if_neg (fun z => z.1 h2), if_neg (by omega), if_neg (by omega), if_neg (by omega)]
theorem liE_0 (h : tqS (T k) = 0) : liE T k = .inr k := if_pos h
theorem liE_1 (h : ¬ tqS (T k) = 0) : liE T k = .inl (tqP (T k)) := if_neg h
theorem liX_e2 (h2 : liS T = 2) (e : pR T fuR 0 1 a = .inl p) : liX T a = .inl p := by unfold liX; rw [if_pos h2, e]
theorem liX_en (h2 : liS T ≠ 2) (e : pR T fuR 0 0 a = .inl p) : liX T a = .inl p := by unfold liX; rw [if_neg h2, e]
theorem liX_x2 (h2 : liS T = 2) (e : pR T fuR 0 1 a = .inr k) (hm : ¬ isMk T k 125) : liX T a = .inl (tqP (T k)) := by
  unfold liX; rw [if_pos h2, e]; exact (if_pos h2).trans (if_neg hm)
theorem liX_v2 (h2 : liS T = 2) (e : pR T fuR 0 1 a = .inr k) (hm : isMk T k 125) : liX T a = liE T (k + 1) := by
  unfold liX; rw [if_pos h2, e]; exact (if_pos h2).trans (if_pos hm)
theorem liX_vn (h2 : liS T ≠ 2) (e : pR T fuR 0 0 a = .inr k) : liX T a = liE T k := by
  unfold liX; rw [if_neg h2, e]; exact if_neg h2
theorem liS_r (T : Nat → Tok) : liS T ≤ 3 := by unfold liS; split; (split; (split <;> omega); (split <;> omega)); omega
theorem liS_nm (h : liS T ≠ 0) : tqS (T 0) = 3 ∨ tqS (T 0) = 4 := Classical.byContradiction fun z => h (if_neg z)
theorem liS_3 (h : liS T = 3) : isMk T 2 40 := by
  have hn := liS_nm (T := T) (by omega)
  unfold liS at h
  rw [if_pos hn] at h
  by_cases m : isMk T 1 58
  · rw [if_pos m] at h
    split at h <;> omega
  · rw [if_neg m] at h
    by_cases am : isAm T = true
    · unfold isAm at am
      rw [Bool.and_eq_true] at am
      exact (of_decide_eq_true am.1).2.2
    · rw [if_neg am] at h; omega
theorem liS_2 (h : liS T = 2) : isMk T 2 123 := by
  have hn := liS_nm (T := T) (by omega)
  unfold liS at h
  rw [if_pos hn] at h
  by_cases m : isMk T 1 58
  · rw [if_pos m] at h
    by_cases n : isMk T 2 123
    · exact n
    · rw [if_neg n] at h; omega
  · rw [if_neg m] at h
    split at h <;> omega
theorem liS_1 (h : liS T = 1) : isMk T 1 58 := by
  have hn := liS_nm (T := T) (by omega)
  unfold liS at h
  rw [if_pos hn] at h
  by_cases m : isMk T 1 58
  · exact m
  · rw [if_neg m] at h
    split at h <;> omega
theorem cL_n {o : Nat} (h3 : liS T ≠ 3) (ho : (if liS T = 2 then 1 else 0) = o) (hc : cR A h T fuR 0 o a op none 0 0) : cL A h T a op := by
  subst ho; exact (iff_of_eq (if_neg h3)).mpr hc
theorem cL_3 {op1 am am2 : Nat} (h3 : liS T = 3) (h1 : fzC A h am (opC 2 (tqP (T 0) : Int) 0 (Int64.ofInt (tqD (T 0))) 0 0 0 .null (.ref am2) .null)) (h2 : fzC A h am2 (opC 7 (tqP (T 1) : Int) 0 (Int64.ofInt 0) 0 0 0 .null .null .null)) (h4 : cR A h T fuR 0 1 3 op1 (some am) 0 0) (h5 : cR A h T fuR 0 0 a op (some op1) 0 0) : cL A h T a op := (iff_of_eq (if_pos h3)).mpr ⟨op1, am, am2, h1, h2, h4, h5⟩
end RLs
theorem tt_name {xt : mj_X} {d mk ln i : Nat} {T : Nat → Tok} {h : mj_H} (hd : 2 ≤ d) (hK : TOKS T mk ln) (hT : TT h T mk ln) (hi : i ≤ mk) : pgP xt d 29 [.ref 9, ii (i : Int)] h (zz (decide (tqS (T i) = 3 ∨ tqS (T i) = 4))) := by
  obtain ⟨le_, gd, sf, pf, bf, df, k, a1, a2, a3, a4, a5, a6⟩ := hT
  have hm := hK.1
  have e : tokS (mk + 1) sf (i : Int) = ((cS T i : Nat) : Int) := by
    unfold tokS
    rw [if_pos (by omega)]; exact a1 i hi
  have c := cS_7 T i
  have c8 := cS_r hK i
  rw [← show zz (decide (tokS (mk + 1) sf (i : Int) = 3 ∨ tokS (mk + 1) sf (i : Int) = 4)) = zz (decide (tqS (T i) = 3 ∨ tqS (T i) = 4)) from congrArg zz (decide_eq_decide.mpr (by rw [e]; omega))]
  exact x_isNameT hd k (by omega) (by rw [e]; omega)
theorem tt_whole {xt : mj_X} {d mk ln i : Nat} {T : Nat → Tok} {h : mj_H} (hd : 1 ≤ d) (hK : TOKS T mk ln) (hT : TT h T mk ln) : pgP xt d 57 [.ref 9] h (zz (decide (tqS (T mk) = 0))) := by
  obtain ⟨le_, gd, sf, pf, bf, df, k, a1, a2, a3, a4, a5, a6⟩ := hT
  have hm := hK.1
  rw [← a4]
  exact x_wholeT hd k
set_option maxRecDepth 20000 in
theorem pm_X7_read : mj_mmof pg_ms 35 = some ((⟨"ArrayCalculator$Reader", "read", "()Z"⟩, prog_9_method_6_code, 3, (Option.some Jvm.ClassFile.FieldType.boolean)), 7, false, mj_dec prog_9_method_6_code) := rfl
theorem dm_X7_read_0 : mj_dec prog_9_method_6_code 0 = some (.aload_n 0, 1) := by decide +kernel
theorem dm_X7_read_1 : mj_dec prog_9_method_6_code 1 = some (.iconst 0, 1) := by decide +kernel
theorem dm_X7_read_2 : mj_dec prog_9_method_6_code 2 = some (.putfield 38, 3) := by decide +kernel
theorem dm_X7_read_5 : mj_dec prog_9_method_6_code 5 = some (.aload_n 0, 1) := by decide +kernel
theorem dm_X7_read_6 : mj_dec prog_9_method_6_code 6 = some (.aload_n 0, 1) := by decide +kernel
theorem dm_X7_read_7 : mj_dec prog_9_method_6_code 7 = some (.getfield 9, 3) := by decide +kernel
theorem dm_X7_read_10 : mj_dec prog_9_method_6_code 10 = some (.iconst 0, 1) := by decide +kernel
theorem dm_X7_read_11 : mj_dec prog_9_method_6_code 11 = some (.invokevirtual 41, 3) := by decide +kernel
theorem dm_X7_read_14 : mj_dec prog_9_method_6_code 14 = some (.putfield 31, 3) := by decide +kernel
theorem dm_X7_read_17 : mj_dec prog_9_method_6_code 17 = some (.aload_n 0, 1) := by decide +kernel
theorem dm_X7_read_18 : mj_dec prog_9_method_6_code 18 = some (.aload_n 0, 1) := by decide +kernel
theorem dm_X7_read_19 : mj_dec prog_9_method_6_code 19 = some (.getfield 9, 3) := by decide +kernel
theorem dm_X7_read_22 : mj_dec prog_9_method_6_code 22 = some (.iconst 0, 1) := by decide +kernel
theorem dm_X7_read_23 : mj_dec prog_9_method_6_code 23 = some (.invokevirtual 47, 3) := by decide +kernel
theorem dm_X7_read_26 : mj_dec prog_9_method_6_code 26 = some (.ifCond .eq 10, 3) := by decide +kernel
theorem dm_X7_read_29 : mj_dec prog_9_method_6_code 29 = some (.aload_n 0, 1) := by decide +kernel
theorem dm_X7_read_30 : mj_dec prog_9_method_6_code 30 = some (.invokevirtual 51, 3) := by decide +kernel
theorem dm_X7_read_33 : mj_dec prog_9_method_6_code 33 = some (.goto 4, 3) := by decide +kernel
theorem dm_X7_read_36 : mj_dec prog_9_method_6_code 36 = some (.iconst 0, 1) := by decide +kernel
theorem dm_X7_read_37 : mj_dec prog_9_method_6_code 37 = some (.putfield 28, 3) := by decide +kernel
theorem dm_X7_read_40 : mj_dec prog_9_method_6_code 40 = some (.aload_n 0, 1) := by decide +kernel
theorem dm_X7_read_41 : mj_dec prog_9_method_6_code 41 = some (.getfield 31, 3) := by decide +kernel
theorem dm_X7_read_44 : mj_dec prog_9_method_6_code 44 = some (.ldc2_w 55, 3) := by decide +kernel
theorem dm_X7_read_47 : mj_dec prog_9_method_6_code 47 = some (.lcmp, 1) := by decide +kernel
theorem dm_X7_read_48 : mj_dec prog_9_method_6_code 48 = some (.ifCond .eq 14, 3) := by decide +kernel
theorem dm_X7_read_51 : mj_dec prog_9_method_6_code 51 = some (.aload_n 0, 1) := by decide +kernel
theorem dm_X7_read_52 : mj_dec prog_9_method_6_code 52 = some (.getfield 31, 3) := by decide +kernel
theorem dm_X7_read_55 : mj_dec prog_9_method_6_code 55 = some (.ldc2_w 57, 3) := by decide +kernel
theorem dm_X7_read_58 : mj_dec prog_9_method_6_code 58 = some (.lcmp, 1) := by decide +kernel
theorem dm_X7_read_59 : mj_dec prog_9_method_6_code 59 = some (.ifCond .ne 7, 3) := by decide +kernel
theorem dm_X7_read_62 : mj_dec prog_9_method_6_code 62 = some (.iconst 1, 1) := by decide +kernel
theorem dm_X7_read_63 : mj_dec prog_9_method_6_code 63 = some (.goto 4, 3) := by decide +kernel
theorem dm_X7_read_66 : mj_dec prog_9_method_6_code 66 = some (.iconst 0, 1) := by decide +kernel
theorem dm_X7_read_67 : mj_dec prog_9_method_6_code 67 = some (.istore_n 1, 1) := by decide +kernel
theorem dm_X7_read_68 : mj_dec prog_9_method_6_code 68 = some (.aload_n 0, 1) := by decide +kernel
theorem dm_X7_read_69 : mj_dec prog_9_method_6_code 69 = some (.getfield 28, 3) := by decide +kernel
theorem dm_X7_read_72 : mj_dec prog_9_method_6_code 72 = some (.ifCond .eq 37, 3) := by decide +kernel
theorem dm_X7_read_75 : mj_dec prog_9_method_6_code 75 = some (.iload_n 1, 1) := by decide +kernel
theorem dm_X7_read_76 : mj_dec prog_9_method_6_code 76 = some (.ifCond .ne 23, 3) := by decide +kernel
theorem dm_X7_read_79 : mj_dec prog_9_method_6_code 79 = some (.aload_n 0, 1) := by decide +kernel
theorem dm_X7_read_80 : mj_dec prog_9_method_6_code 80 = some (.getfield 28, 3) := by decide +kernel
theorem dm_X7_read_83 : mj_dec prog_9_method_6_code 83 = some (.iconst 3, 1) := by decide +kernel
theorem dm_X7_read_84 : mj_dec prog_9_method_6_code 84 = some (.if_icmp .ne 25, 3) := by decide +kernel
theorem dm_X7_read_87 : mj_dec prog_9_method_6_code 87 = some (.aload_n 0, 1) := by decide +kernel
theorem dm_X7_read_88 : mj_dec prog_9_method_6_code 88 = some (.getfield 9, 3) := by decide +kernel
theorem dm_X7_read_91 : mj_dec prog_9_method_6_code 91 = some (.iconst 0, 1) := by decide +kernel
theorem dm_X7_read_92 : mj_dec prog_9_method_6_code 92 = some (.invokevirtual 59, 3) := by decide +kernel
theorem dm_X7_read_95 : mj_dec prog_9_method_6_code 95 = some (.iconst 4, 1) := by decide +kernel
theorem dm_X7_read_96 : mj_dec prog_9_method_6_code 96 = some (.if_icmp .ne 13, 3) := by decide +kernel
theorem dm_X7_read_99 : mj_dec prog_9_method_6_code 99 = some (.aload_n 0, 1) := by decide +kernel
theorem dm_X7_read_100 : mj_dec prog_9_method_6_code 100 = some (.aload_n 0, 1) := by decide +kernel
theorem dm_X7_read_101 : mj_dec prog_9_method_6_code 101 = some (.invokevirtual 63, 3) := by decide +kernel
theorem dm_X7_read_104 : mj_dec prog_9_method_6_code 104 = some (.putfield 35, 3) := by decide +kernel
theorem dm_X7_read_107 : mj_dec prog_9_method_6_code 107 = some (.iconst 0, 1) := by decide +kernel
theorem dm_X7_read_108 : mj_dec prog_9_method_6_code 108 = some (.ireturn, 1) := by decide +kernel
theorem dm_X7_read_109 : mj_dec prog_9_method_6_code 109 = some (.aconst_null, 1) := by decide +kernel
theorem dm_X7_read_110 : mj_dec prog_9_method_6_code 110 = some (.astore_n 2, 1) := by decide +kernel
theorem dm_X7_read_111 : mj_dec prog_9_method_6_code 111 = some (.aload_n 0, 1) := by decide +kernel
theorem dm_X7_read_112 : mj_dec prog_9_method_6_code 112 = some (.getfield 28, 3) := by decide +kernel
theorem dm_X7_read_115 : mj_dec prog_9_method_6_code 115 = some (.iconst 3, 1) := by decide +kernel
theorem dm_X7_read_116 : mj_dec prog_9_method_6_code 116 = some (.if_icmp .ne 42, 3) := by decide +kernel
theorem dm_X7_read_119 : mj_dec prog_9_method_6_code 119 = some (.aload_n 0, 1) := by decide +kernel
theorem dm_X7_read_120 : mj_dec prog_9_method_6_code 120 = some (.iconst 3, 1) := by decide +kernel
theorem dm_X7_read_121 : mj_dec prog_9_method_6_code 121 = some (.putfield 38, 3) := by decide +kernel
theorem dm_X7_read_124 : mj_dec prog_9_method_6_code 124 = some (.aload_n 0, 1) := by decide +kernel
theorem dm_X7_read_125 : mj_dec prog_9_method_6_code 125 = some (.aload_n 0, 1) := by decide +kernel
theorem dm_X7_read_126 : mj_dec prog_9_method_6_code 126 = some (.invokevirtual 67, 3) := by decide +kernel
theorem dm_X7_read_129 : mj_dec prog_9_method_6_code 129 = some (.iconst 1, 1) := by decide +kernel
theorem dm_X7_read_130 : mj_dec prog_9_method_6_code 130 = some (.invokevirtual 70, 3) := by decide +kernel
theorem dm_X7_read_133 : mj_dec prog_9_method_6_code 133 = some (.astore_n 2, 1) := by decide +kernel
theorem dm_X7_read_134 : mj_dec prog_9_method_6_code 134 = some (.aload_n 2, 1) := by decide +kernel
theorem dm_X7_read_135 : mj_dec prog_9_method_6_code 135 = some (.ifnull 21, 3) := by decide +kernel
theorem dm_X7_read_138 : mj_dec prog_9_method_6_code 138 = some (.aload_n 0, 1) := by decide +kernel
theorem dm_X7_read_139 : mj_dec prog_9_method_6_code 139 = some (.bipush 41, 2) := by decide +kernel
theorem dm_X7_read_141 : mj_dec prog_9_method_6_code 141 = some (.invokevirtual 74, 3) := by decide +kernel
theorem dm_X7_read_144 : mj_dec prog_9_method_6_code 144 = some (.ifCond .eq 12, 3) := by decide +kernel
theorem dm_X7_read_147 : mj_dec prog_9_method_6_code 147 = some (.aload_n 0, 1) := by decide +kernel
theorem dm_X7_read_148 : mj_dec prog_9_method_6_code 148 = some (.bipush 58, 2) := by decide +kernel
theorem dm_X7_read_150 : mj_dec prog_9_method_6_code 150 = some (.invokevirtual 74, 3) := by decide +kernel
theorem dm_X7_read_153 : mj_dec prog_9_method_6_code 153 = some (.ifCond .ne 29, 3) := by decide +kernel
theorem dm_X7_read_156 : mj_dec prog_9_method_6_code 156 = some (.iconst 0, 1) := by decide +kernel
theorem dm_X7_read_157 : mj_dec prog_9_method_6_code 157 = some (.ireturn, 1) := by decide +kernel
theorem dm_X7_read_158 : mj_dec prog_9_method_6_code 158 = some (.aload_n 0, 1) := by decide +kernel
theorem dm_X7_read_159 : mj_dec prog_9_method_6_code 159 = some (.getfield 28, 3) := by decide +kernel
theorem dm_X7_read_162 : mj_dec prog_9_method_6_code 162 = some (.ifCond .eq 20, 3) := by decide +kernel
theorem dm_X7_read_165 : mj_dec prog_9_method_6_code 165 = some (.aload_n 0, 1) := by decide +kernel
theorem dm_X7_read_166 : mj_dec prog_9_method_6_code 166 = some (.aload_n 0, 1) := by decide +kernel
theorem dm_X7_read_167 : mj_dec prog_9_method_6_code 167 = some (.getfield 28, 3) := by decide +kernel
theorem dm_X7_read_170 : mj_dec prog_9_method_6_code 170 = some (.iconst 2, 1) := by decide +kernel
theorem dm_X7_read_171 : mj_dec prog_9_method_6_code 171 = some (.if_icmp .ne 7, 3) := by decide +kernel
theorem dm_X7_read_174 : mj_dec prog_9_method_6_code 174 = some (.iconst 3, 1) := by decide +kernel
theorem dm_X7_read_175 : mj_dec prog_9_method_6_code 175 = some (.goto 4, 3) := by decide +kernel
theorem dm_X7_read_178 : mj_dec prog_9_method_6_code 178 = some (.iconst 2, 1) := by decide +kernel
theorem dm_X7_read_179 : mj_dec prog_9_method_6_code 179 = some (.putfield 38, 3) := by decide +kernel
theorem dm_X7_read_182 : mj_dec prog_9_method_6_code 182 = some (.aload_n 0, 1) := by decide +kernel
theorem dm_X7_read_183 : mj_dec prog_9_method_6_code 183 = some (.aload_n 0, 1) := by decide +kernel
theorem dm_X7_read_184 : mj_dec prog_9_method_6_code 184 = some (.aload_n 2, 1) := by decide +kernel
theorem dm_X7_read_185 : mj_dec prog_9_method_6_code 185 = some (.aload_n 0, 1) := by decide +kernel
theorem dm_X7_read_186 : mj_dec prog_9_method_6_code 186 = some (.getfield 28, 3) := by decide +kernel
theorem dm_X7_read_189 : mj_dec prog_9_method_6_code 189 = some (.iconst 2, 1) := by decide +kernel
theorem dm_X7_read_190 : mj_dec prog_9_method_6_code 190 = some (.if_icmp .ne 7, 3) := by decide +kernel
theorem dm_X7_read_193 : mj_dec prog_9_method_6_code 193 = some (.iconst 1, 1) := by decide +kernel
theorem dm_X7_read_194 : mj_dec prog_9_method_6_code 194 = some (.goto 4, 3) := by decide +kernel
theorem dm_X7_read_197 : mj_dec prog_9_method_6_code 197 = some (.iconst 0, 1) := by decide +kernel
theorem dm_X7_read_198 : mj_dec prog_9_method_6_code 198 = some (.invokevirtual 70, 3) := by decide +kernel
theorem dm_X7_read_201 : mj_dec prog_9_method_6_code 201 = some (.putfield 35, 3) := by decide +kernel
theorem dm_X7_read_204 : mj_dec prog_9_method_6_code 204 = some (.aload_n 0, 1) := by decide +kernel
theorem dm_X7_read_205 : mj_dec prog_9_method_6_code 205 = some (.getfield 35, 3) := by decide +kernel
theorem dm_X7_read_208 : mj_dec prog_9_method_6_code 208 = some (.ifnull 20, 3) := by decide +kernel
theorem dm_X7_read_211 : mj_dec prog_9_method_6_code 211 = some (.aload_n 0, 1) := by decide +kernel
theorem dm_X7_read_212 : mj_dec prog_9_method_6_code 212 = some (.getfield 28, 3) := by decide +kernel
theorem dm_X7_read_215 : mj_dec prog_9_method_6_code 215 = some (.iconst 2, 1) := by decide +kernel
theorem dm_X7_read_216 : mj_dec prog_9_method_6_code 216 = some (.if_icmp .ne 14, 3) := by decide +kernel
theorem dm_X7_read_219 : mj_dec prog_9_method_6_code 219 = some (.aload_n 0, 1) := by decide +kernel
theorem dm_X7_read_220 : mj_dec prog_9_method_6_code 220 = some (.bipush 125, 2) := by decide +kernel
theorem dm_X7_read_222 : mj_dec prog_9_method_6_code 222 = some (.invokevirtual 74, 3) := by decide +kernel
theorem dm_X7_read_225 : mj_dec prog_9_method_6_code 225 = some (.ifCond .ne 5, 3) := by decide +kernel
theorem dm_X7_read_228 : mj_dec prog_9_method_6_code 228 = some (.iconst 0, 1) := by decide +kernel
theorem dm_X7_read_229 : mj_dec prog_9_method_6_code 229 = some (.ireturn, 1) := by decide +kernel
theorem dm_X7_read_230 : mj_dec prog_9_method_6_code 230 = some (.aload_n 0, 1) := by decide +kernel
theorem dm_X7_read_231 : mj_dec prog_9_method_6_code 231 = some (.getfield 9, 3) := by decide +kernel
theorem dm_X7_read_234 : mj_dec prog_9_method_6_code 234 = some (.aload_n 0, 1) := by decide +kernel
theorem dm_X7_read_235 : mj_dec prog_9_method_6_code 235 = some (.getfield 38, 3) := by decide +kernel
theorem dm_X7_read_238 : mj_dec prog_9_method_6_code 238 = some (.invokevirtual 59, 3) := by decide +kernel
theorem dm_X7_read_241 : mj_dec prog_9_method_6_code 241 = some (.ifCond .ne 13, 3) := by decide +kernel
theorem dm_X7_read_244 : mj_dec prog_9_method_6_code 244 = some (.aload_n 0, 1) := by decide +kernel
theorem dm_X7_read_245 : mj_dec prog_9_method_6_code 245 = some (.getfield 9, 3) := by decide +kernel
theorem dm_X7_read_248 : mj_dec prog_9_method_6_code 248 = some (.invokevirtual 77, 3) := by decide +kernel
theorem dm_X7_read_251 : mj_dec prog_9_method_6_code 251 = some (.ifCond .ne 11, 3) := by decide +kernel
theorem dm_X7_read_254 : mj_dec prog_9_method_6_code 254 = some (.aload_n 0, 1) := by decide +kernel
theorem dm_X7_read_255 : mj_dec prog_9_method_6_code 255 = some (.aload_n 0, 1) := by decide +kernel
theorem dm_X7_read_256 : mj_dec prog_9_method_6_code 256 = some (.invokevirtual 63, 3) := by decide +kernel
theorem dm_X7_read_259 : mj_dec prog_9_method_6_code 259 = some (.putfield 35, 3) := by decide +kernel
theorem dm_X7_read_262 : mj_dec prog_9_method_6_code 262 = some (.aload_n 0, 1) := by decide +kernel
theorem dm_X7_read_263 : mj_dec prog_9_method_6_code 263 = some (.getfield 35, 3) := by decide +kernel
theorem dm_X7_read_266 : mj_dec prog_9_method_6_code 266 = some (.ifnull 7, 3) := by decide +kernel
theorem dm_X7_read_269 : mj_dec prog_9_method_6_code 269 = some (.iconst 1, 1) := by decide +kernel
theorem dm_X7_read_270 : mj_dec prog_9_method_6_code 270 = some (.goto 4, 3) := by decide +kernel
theorem dm_X7_read_273 : mj_dec prog_9_method_6_code 273 = some (.iconst 0, 1) := by decide +kernel
theorem dm_X7_read_274 : mj_dec prog_9_method_6_code 274 = some (.ireturn, 1) := by decide +kernel
theorem d_read {xt : mj_X} {f1 : Nat → Value} {d mk ln : Nat} {A : Nat → Prop} {T : Nat → Tok} {at_ wr ls : Int} {nm : Int64} {st tl : Value} {h : mj_H} (hx1 : xt 1 = some (.long, 0, f1)) (hd : 64 ≤ d) (hl : 127 ≤ h.length) (hA : okA A h) (hK : TOKS T mk ln) (hT : TT h T mk ln) (h13 : h[13]? = some (rdC at_ wr ls nm st tl)) : pgV xt d 35 [.ref 13] h (RL A h T ln) := by
  obtain ⟨le_, gd, sf, pf, bf, df, hk9, -, -, -, -, -, -⟩ := id hT
  have h9 := hk9.1
  have hmk200 := hK.1
  have hD := hK.2.2.2.2.2.1 0
  have e64 : (Int64.ofInt (tqD (T 0))).toInt = tqD (T 0) := n_toL (by omega) (by omega)
  have e24 : (Int64.ofInt 24).toInt = 24 := by decide
  have e25 : (Int64.ofInt 25).toInt = 25 := by decide
  have hfu : fuR = 1700 := rfl
  refine x_enter pm_X7_read (L0 := [(0, .ref 13)]) rfl (Nat.le_of_ble_eq_true rfl) (by omega) ?_
  refine me1 (pc' := 1) (L' := [(0, .ref 13)]) (S' := [.ref 13]) dm_X7_read_0 rfl rfl rfl rfl ?_
  refine me0 (pc' := 2) (S' := [ii 0, .ref 13]) dm_X7_read_1 rfl rfl rfl rfl ?_
  refine pg_st (S' := [ii ((0 : Nat) : Int), .ref 13]) (congrArg (fun z => ii z :: [.ref 13]) (rfl)) ?_
  refine me3 (pc' := 5) (S' := []) (h1 := (h).set 13 (cO 7 [.ref 9, ii ((0 : Nat) : Int), ii wr, ii ls, .long nm, st, tl])) dm_X7_read_2 (g_put (fs' := [.ref 9, ii ((0 : Nat) : Int), ii wr, ii ls, .long nm, st, tl]) h13 rfl rfl rfl (by simp) rfl (by decide) (fun z => by cases z) (by decide)) rfl rfl rfl ?_
  refine me1 (pc' := 6) (L' := [(0, .ref 13)]) (S' := [.ref 13]) dm_X7_read_5 rfl rfl rfl rfl ?_
  refine me1 (pc' := 7) (L' := [(0, .ref 13)]) (S' := [.ref 13, .ref 13]) dm_X7_read_6 rfl rfl rfl rfl ?_
  refine me3 (pc' := 10) (S' := [.ref 9, .ref 13]) dm_X7_read_7 (g_get (v := .ref 9) (hl_set (hl_lt h13)) rfl rfl (by decide)) rfl rfl rfl ?_
  refine me0 (pc' := 11) (S' := [ii 0, .ref 9, .ref 13]) dm_X7_read_10 rfl rfl rfl rfl ?_
  refine pg_st (S' := [ii ((0 : Nat) : Int), .ref 9, .ref 13]) (congrArg (fun z => ii z :: [.ref 9, .ref 13]) (rfl)) ?_
  have jn40 : pgE xt (d - 1) 7 3 false (Option.some Jvm.ClassFile.FieldType.boolean) (mj_dec prog_9_method_6_code) 40 [(0, .ref 13)] [] ((h).set 13 (cO 7 [.ref 9, ii ((0 : Nat) : Int), ii wr, ii ((liS T : Nat) : Int), .long (Int64.ofInt (tqD (T 0))), st, tl])) (fun r h' => ∃ x, r = some x ∧ RL A h T ln x h') := by
    refine me1 (pc' := 41) (L' := [(0, .ref 13)]) (S' := [.ref 13]) dm_X7_read_40 rfl rfl rfl rfl ?_
    rcases (show liS T = 0 ∨ liS T = 1 ∨ liS T = 2 ∨ liS T = 3 by have := liS_r T; omega) with hls | hls | hls | hls
    · have hlz : ((liS T : Nat) : Int) = 0 := by rw [hls]; rfl
      refine pg_cast (h2 := (h).set 13 (cO 7 [.ref 9, ii ((0 : Nat) : Int), ii wr, ii 0, .long (Int64.ofInt (tqD (T 0))), st, tl])) (by rw [hlz]) ?_
      have jn68 : pgE xt (d - 1) 7 3 false (Option.some Jvm.ClassFile.FieldType.boolean) (mj_dec prog_9_method_6_code) 68 [(1, zz (decide (ownN T))), (0, .ref 13)] [] ((h).set 13 (cO 7 [.ref 9, ii ((0 : Nat) : Int), ii wr, ii 0, .long (Int64.ofInt (tqD (T 0))), st, tl])) (fun r h' => ∃ x, r = some x ∧ RL A h T ln x h') := by
        refine me1 (pc' := 69) (L' := [(1, zz (decide (ownN T))), (0, .ref 13)]) (S' := [.ref 13]) dm_X7_read_68 rfl rfl rfl rfl ?_
        refine me3 (pc' := 72) (S' := [ii 0]) dm_X7_read_69 (g_get (v := ii 0) (hl_set (hl_lt h13)) rfl rfl (by decide)) rfl rfl rfl ?_
        refine me_1t (pc' := 109) dm_X7_read_72 rfl (by decide) ?_
        refine me0 (pc' := 110) (S' := [.null]) dm_X7_read_109 rfl rfl rfl rfl ?_
        refine me1 (pc' := 111) (L' := [(2, .null), (1, zz (decide (ownN T))), (0, .ref 13)]) (S' := []) dm_X7_read_110 rfl rfl rfl rfl ?_
        refine me1 (pc' := 112) (L' := [(2, .null), (1, zz (decide (ownN T))), (0, .ref 13)]) (S' := [.ref 13]) dm_X7_read_111 rfl rfl rfl rfl ?_
        refine me3 (pc' := 115) (S' := [ii 0]) dm_X7_read_112 (g_get (v := ii 0) (hl_set (hl_lt h13)) rfl rfl (by decide)) rfl rfl rfl ?_
        refine me0 (pc' := 116) (S' := [ii 3, ii 0]) dm_X7_read_115 rfl rfl rfl rfl ?_
        refine me_2t (pc' := 158) dm_X7_read_116 rfl (by decide) ?_
        refine me1 (pc' := 159) (L' := [(2, .null), (1, zz (decide (ownN T))), (0, .ref 13)]) (S' := [.ref 13]) dm_X7_read_158 rfl rfl rfl rfl ?_
        refine me3 (pc' := 162) (S' := [ii 0]) dm_X7_read_159 (g_get (v := ii 0) (hl_set (hl_lt h13)) rfl rfl (by decide)) rfl rfl rfl ?_
        refine me_1t (pc' := 182) dm_X7_read_162 rfl (by decide) ?_
        refine me1 (pc' := 183) (L' := [(2, .null), (1, zz (decide (ownN T))), (0, .ref 13)]) (S' := [.ref 13]) dm_X7_read_182 rfl rfl rfl rfl ?_
        refine me1 (pc' := 184) (L' := [(2, .null), (1, zz (decide (ownN T))), (0, .ref 13)]) (S' := [.ref 13, .ref 13]) dm_X7_read_183 rfl rfl rfl rfl ?_
        refine me1 (pc' := 185) (L' := [(2, .null), (1, zz (decide (ownN T))), (0, .ref 13)]) (S' := [.null, .ref 13, .ref 13]) dm_X7_read_184 rfl rfl rfl rfl ?_
        refine me1 (pc' := 186) (L' := [(2, .null), (1, zz (decide (ownN T))), (0, .ref 13)]) (S' := [.ref 13, .null, .ref 13, .ref 13]) dm_X7_read_185 rfl rfl rfl rfl ?_
        refine me3 (pc' := 189) (S' := [ii 0, .null, .ref 13, .ref 13]) dm_X7_read_186 (g_get (v := ii 0) (hl_set (hl_lt h13)) rfl rfl (by decide)) rfl rfl rfl ?_
        refine me0 (pc' := 190) (S' := [ii 2, ii 0, .null, .ref 13, .ref 13]) dm_X7_read_189 rfl rfl rfl rfl ?_
        refine me_2t (pc' := 197) dm_X7_read_190 rfl (by decide) ?_
        refine me0 (pc' := 198) (S' := [ii 0, .null, .ref 13, .ref 13]) dm_X7_read_197 rfl rfl rfl rfl ?_
        obtain ⟨g2, g2e⟩ : ∃ g2, g2 = ((h).set 13 (cO 7 [.ref 9, ii ((0 : Nat) : Int), ii wr, ii 0, .long (Int64.ofInt (tqD (T 0))), st, tl])) := ⟨_, rfl⟩
        have g2_13 : g2[13]? = some (cO 7 [.ref 9, ii ((0 : Nat) : Int), ii wr, ii 0, .long (Int64.ofInt (tqD (T 0))), st, tl]) := by rw [g2e]; exact (hl_set (hl_lt h13))
        have g2_9 : g2[9]? = some (cO 8 [.ref 10, .ref 11, .ref 12, ii ((mk + 1 : Nat) : Int), ii le_, .ref 3, .ref 4, ii (ln : Int), zz gd]) := by rw [g2e]; exact (hl_ne (by decide) h9)
        have g2T : TT g2 T mk ln := by rw [g2e]; exact (TT_set (by omega) hT)
        refine pg_cast (h2 := g2) g2e.symm ?_
        have g2l : g2.length = h.length := by rw [g2e]; simp
        have g2s : mj_sl g2 = mj_sl h := by rw [g2e]; exact sl_rd h13
        have g2F : rdF h g2 13 := by rw [g2e]; exact rdF_set (Or.inl rfl) (rdF_rf h 13)
        refine pg_st (S' := [ii ((0 : Nat) : Int), .null, .ref 13, .ref 13]) rfl ?_
        rcases e : pR T fuR 0 0 0 with p_e | j_e
        · refine x_cv (pc' := 201) (rest := [.ref 13]) dm_X7_read_198 rfl (g_inv (As := [.null, ii ((0 : Nat) : Int)]) (S := [.ref 13]) g2_13 rfl rfl rfl (by decide)) rfl rfl rfl (d_expr hx1 hK fuR _ g2 A 0 0 (none) wr tl (by omega) (by omega) (okA_len hA (by omega)) g2T g2_13 (by omega) (by omega) (by omega)) ?_
          rintro x2 k hx2_
          obtain ⟨kat, ktl, rfl, k_13, kF, kL, kS⟩ := RX_e e hx2_
          have kT : TT k T mk ln := rdF_TT kF (by decide) (by omega) g2T
          have kl := kF.1
          have k_9 : k[9]? = some (cO 8 [.ref 10, .ref 11, .ref 12, ii ((mk + 1 : Nat) : Int), ii le_, .ref 3, .ref 4, ii (ln : Int), zz gd]) := (kF.2 9 (by omega) (by omega) (by omega)).trans g2_9
          have hc1 : ceM 0 = 1 := rfl
          have hPa := P_ln hK 0
          refine me3 (pc' := 204) (S' := []) (h1 := (k).set 13 (cO 7 [.ref 9, ii kat, ii (p_e : Int), ii 0, .long (Int64.ofInt (tqD (T 0))), .null, ktl])) dm_X7_read_201 (g_put (fs' := [.ref 9, ii kat, ii (p_e : Int), ii 0, .long (Int64.ofInt (tqD (T 0))), .null, ktl]) k_13 rfl rfl rfl (by simp) rfl (by decide) (fun z => by cases z) (by decide)) rfl rfl rfl ?_
          refine me1 (pc' := 205) (L' := [(2, .null), (1, zz (decide (ownN T))), (0, .ref 13)]) (S' := [.ref 13]) dm_X7_read_204 rfl rfl rfl rfl ?_
          refine me3 (pc' := 208) (S' := [.null]) dm_X7_read_205 (g_get (v := .null) (hl_set (hl_lt k_13)) rfl rfl (by decide)) rfl rfl rfl ?_
          refine me2 (pc' := 228) (S' := []) dm_X7_read_208 rfl rfl rfl ?_
          refine me0 (pc' := 229) (S' := [ii 0]) dm_X7_read_228 rfl rfl rfl rfl ?_
          refine y_ret (r := some (ii 0)) dm_X7_read_229 rfl rfl rfl ?_
          exact ⟨_, rfl, RL_e hlz (liR_x (liA_0 hls) (liX_en (by omega) e)) (hl_set (hl_lt k_13)) (rdF_set (Or.inl rfl) (rdF_tr g2F kF)) (by simp only [List.length_set]; omega) (by rw [sl_rd k_13]; omega)⟩
        · refine x_cv (pc' := 201) (rest := [.ref 13]) dm_X7_read_198 rfl (g_inv (As := [.null, ii ((0 : Nat) : Int)]) (S := [.ref 13]) g2_13 rfl rfl rfl (by decide)) rfl rfl rfl (d_expr hx1 hK fuR _ g2 A 0 0 (none) wr tl (by omega) (by omega) (okA_len hA (by omega)) g2T g2_13 (by omega) (by omega) (by omega)) ?_
          rintro x2 k hx2_
          obtain ⟨kop, kwr, ktl, rfl, k_13, kF, kO, kC, kL, kS⟩ := RX_v e hx2_
          have kT : TT k T mk ln := rdF_TT kF (by decide) (by omega) g2T
          have kl := kF.1
          have k_9 : k[9]? = some (cO 8 [.ref 10, .ref 11, .ref 12, ii ((mk + 1 : Nat) : Int), ii le_, .ref 3, .ref 4, ii (ln : Int), zz gd]) := (kF.2 9 (by omega) (by omega) (by omega)).trans g2_9
          have hc1 : ceM 0 = 1 := rfl
          have hPa := P_ln hK 0
          have hj := pR_mk hK _ 0 _ _ _ (show 0 ≤ mk by omega) e
          have hPj := P_ln hK j_e
          refine me3 (pc' := 204) (S' := []) (h1 := (k).set 13 (cO 7 [.ref 9, ii ((j_e : Nat) : Int), ii kwr, ii 0, .long (Int64.ofInt (tqD (T 0))), .ref kop, ktl])) dm_X7_read_201 (g_put (fs' := [.ref 9, ii ((j_e : Nat) : Int), ii kwr, ii 0, .long (Int64.ofInt (tqD (T 0))), .ref kop, ktl]) k_13 rfl rfl rfl (by simp) rfl (by decide) (fun z => by cases z) (by decide)) rfl rfl rfl ?_
          refine me1 (pc' := 205) (L' := [(2, .null), (1, zz (decide (ownN T))), (0, .ref 13)]) (S' := [.ref 13]) dm_X7_read_204 rfl rfl rfl rfl ?_
          refine me3 (pc' := 208) (S' := [.ref kop]) dm_X7_read_205 (g_get (v := .ref kop) (hl_set (hl_lt k_13)) rfl rfl (by decide)) rfl rfl rfl ?_
          refine me2 (pc' := 211) (S' := []) dm_X7_read_208 rfl rfl rfl ?_
          refine me1 (pc' := 212) (L' := [(2, .null), (1, zz (decide (ownN T))), (0, .ref 13)]) (S' := [.ref 13]) dm_X7_read_211 rfl rfl rfl rfl ?_
          refine me3 (pc' := 215) (S' := [ii 0]) dm_X7_read_212 (g_get (v := ii 0) (hl_set (hl_lt k_13)) rfl rfl (by decide)) rfl rfl rfl ?_
          refine me0 (pc' := 216) (S' := [ii 2, ii 0]) dm_X7_read_215 rfl rfl rfl rfl ?_
          refine me_2t (pc' := 230) dm_X7_read_216 rfl (by decide) ?_
          have c8j := cS_r hK j_e
          refine me1 (pc' := 231) (L' := [(2, .null), (1, zz (decide (ownN T))), (0, .ref 13)]) (S' := [.ref 13]) dm_X7_read_230 rfl rfl rfl rfl ?_
          refine me3 (pc' := 234) (S' := [.ref 9]) dm_X7_read_231 (g_get (v := .ref 9) (hl_set (hl_lt k_13)) rfl rfl (by decide)) rfl rfl rfl ?_
          refine me1 (pc' := 235) (L' := [(2, .null), (1, zz (decide (ownN T))), (0, .ref 13)]) (S' := [.ref 13, .ref 9]) dm_X7_read_234 rfl rfl rfl rfl ?_
          refine me3 (pc' := 238) (S' := [ii ((j_e : Nat) : Int), .ref 9]) dm_X7_read_235 (g_get (v := ii ((j_e : Nat) : Int)) (hl_set (hl_lt k_13)) rfl rfl (by decide)) rfl rfl rfl ?_
          refine x_cp (pc' := 241) (v := ii ((cS T j_e : Nat) : Int)) (rest := []) dm_X7_read_238 rfl (g_inv (As := [ii ((j_e : Nat) : Int)]) (S := []) (hl_ne (by decide) k_9) rfl rfl rfl (by decide)) rfl rfl rfl (tt_sort (i := j_e) (by omega) hK (TT_set (by omega) kT) (by omega)) ?_
          refine y_1ne (a := ((cS T j_e : Nat) : Int)) (t := 254) (pc' := 244) dm_X7_read_241 rfl rfl (by omega) (fun hb1 => ?_) (fun hb1 => ?_)
          · have hnz : ¬ tqS (T j_e) = 0 := by have := (cS_7 T j_e).2.2.2.2.2.2.2; omega
            refine me1 (pc' := 255) (L' := [(2, .null), (1, zz (decide (ownN T))), (0, .ref 13)]) (S' := [.ref 13]) dm_X7_read_254 rfl rfl rfl rfl ?_
            refine me1 (pc' := 256) (L' := [(2, .null), (1, zz (decide (ownN T))), (0, .ref 13)]) (S' := [.ref 13, .ref 13]) dm_X7_read_255 rfl rfl rfl rfl ?_
            refine x_cv (pc' := 259) (rest := [.ref 13]) dm_X7_read_256 rfl (g_inv (As := []) (S := [.ref 13]) (hl_set (hl_lt k_13)) rfl rfl rfl (by decide)) rfl rfl rfl (d_fail (i := j_e) (by omega) hK (TT_set (by omega) kT) (hl_set (hl_lt k_13)) (by omega) (by rw [List.set_set])) ?_
            rintro _ _ ⟨rfl, rfl⟩
            refine me3 (pc' := 262) (S' := []) (h1 := (k).set 13 (cO 7 [.ref 9, ii ((j_e : Nat) : Int), ii (tqP (T j_e) : Int), ii 0, .long (Int64.ofInt (tqD (T 0))), .null, ktl])) dm_X7_read_259 (g_put (fs' := [.ref 9, ii ((j_e : Nat) : Int), ii (tqP (T j_e) : Int), ii 0, .long (Int64.ofInt (tqD (T 0))), .null, ktl]) (hl_set (hl_lt k_13)) rfl (by rw [List.set_set]) rfl (by simp) rfl (by decide) (fun z => by cases z) (by decide)) rfl rfl rfl ?_
            refine me1 (pc' := 263) (L' := [(2, .null), (1, zz (decide (ownN T))), (0, .ref 13)]) (S' := [.ref 13]) dm_X7_read_262 rfl rfl rfl rfl ?_
            refine me3 (pc' := 266) (S' := [.null]) dm_X7_read_263 (g_get (v := .null) (hl_set (hl_lt k_13)) rfl rfl (by decide)) rfl rfl rfl ?_
            refine me2 (pc' := 273) (S' := []) dm_X7_read_266 rfl rfl rfl ?_
            refine me0 (pc' := 274) (S' := [ii 0]) dm_X7_read_273 rfl rfl rfl rfl ?_
            refine y_ret (r := some (ii 0)) dm_X7_read_274 rfl rfl rfl ?_
            exact ⟨_, rfl, RL_e hlz (liR_x (liA_0 hls) ((liX_vn (by omega) e).trans (liE_1 hnz))) (hl_set (hl_lt k_13)) (rdF_set (Or.inl rfl) (rdF_tr g2F kF)) (by simp only [List.length_set]; omega) (by rw [sl_rd k_13]; omega)⟩
          · refine me1 (pc' := 245) (L' := [(2, .null), (1, zz (decide (ownN T))), (0, .ref 13)]) (S' := [.ref 13]) dm_X7_read_244 rfl rfl rfl rfl ?_
            refine me3 (pc' := 248) (S' := [.ref 9]) dm_X7_read_245 (g_get (v := .ref 9) (hl_set (hl_lt k_13)) rfl rfl (by decide)) rfl rfl rfl ?_
            refine x_cp (pc' := 251) (v := zz (decide (tqS (T mk) = 0))) (rest := []) dm_X7_read_248 rfl (g_inv (As := []) (S := []) (hl_ne (by decide) k_9) rfl rfl rfl (by decide)) rfl rfl rfl (tt_whole (i := 0) (by omega) hK (TT_set (by omega) kT)) ?_
            refine y_zne (c := decide (tqS (T mk) = 0)) (t := 262) (pc' := 254) dm_X7_read_251 rfl rfl (fun hb2 => ?_) (fun hb2 => ?_)
            · replace hb2 := dT hb2
              have hzm := hb2
              have hjmk : j_e = mk := Classical.byContradiction fun z => by have := hK.2.2.1 j_e (by omega); have := (cS_7 T j_e).2.2.2.2.2.2.2; omega
              have hz0 : tqS (T j_e) = 0 := by rw [hjmk]; exact hzm
              refine me1 (pc' := 263) (L' := [(2, .null), (1, zz (decide (ownN T))), (0, .ref 13)]) (S' := [.ref 13]) dm_X7_read_262 rfl rfl rfl rfl ?_
              refine me3 (pc' := 266) (S' := [.ref kop]) dm_X7_read_263 (g_get (v := .ref kop) (hl_set (hl_lt k_13)) rfl rfl (by decide)) rfl rfl rfl ?_
              refine me2 (pc' := 269) (S' := []) dm_X7_read_266 rfl rfl rfl ?_
              refine me0 (pc' := 270) (S' := [ii 1]) dm_X7_read_269 rfl rfl rfl rfl ?_
              refine me2 (pc' := 274) (S' := [ii 1]) dm_X7_read_270 rfl rfl rfl ?_
              refine y_ret (r := some (ii 1)) dm_X7_read_274 rfl rfl rfl ?_
              exact ⟨_, rfl, RL_v hlz (liR_v (liA_0 hls) ((liX_vn (by omega) e).trans (liE_0 hz0))) (hl_set (hl_lt k_13)) (rdF_set (Or.inl rfl) (rdF_tr g2F kF)) (by simp only [List.length_set]; omega) (by rw [sl_rd k_13]; omega) ⟨by omega, by omega, by simp only [List.length_set]; omega⟩ (cL_n (o := 0) (by omega) (by rw [hls]; rfl) (cR_k (kp_rd (A := A) (g := g2) hA hl (by omega) (rdF_set (Or.inl rfl) (rdF_rf k 13)) (Or.inl rfl)) _ _ _ _ _ _ _ _ kC))⟩
            · replace hb2 := dF hb2
              have hnzm := hb2
              have hjmk : j_e = mk := Classical.byContradiction fun z => by have := hK.2.2.1 j_e (by omega); have := (cS_7 T j_e).2.2.2.2.2.2.2; omega
              have hnz : ¬ tqS (T j_e) = 0 := by rw [hjmk]; exact hnzm
              refine me1 (pc' := 255) (L' := [(2, .null), (1, zz (decide (ownN T))), (0, .ref 13)]) (S' := [.ref 13]) dm_X7_read_254 rfl rfl rfl rfl ?_
              refine me1 (pc' := 256) (L' := [(2, .null), (1, zz (decide (ownN T))), (0, .ref 13)]) (S' := [.ref 13, .ref 13]) dm_X7_read_255 rfl rfl rfl rfl ?_
              refine x_cv (pc' := 259) (rest := [.ref 13]) dm_X7_read_256 rfl (g_inv (As := []) (S := [.ref 13]) (hl_set (hl_lt k_13)) rfl rfl rfl (by decide)) rfl rfl rfl (d_fail (i := j_e) (by omega) hK (TT_set (by omega) kT) (hl_set (hl_lt k_13)) (by omega) (by rw [List.set_set])) ?_
              rintro _ _ ⟨rfl, rfl⟩
              refine me3 (pc' := 262) (S' := []) (h1 := (k).set 13 (cO 7 [.ref 9, ii ((j_e : Nat) : Int), ii (tqP (T j_e) : Int), ii 0, .long (Int64.ofInt (tqD (T 0))), .null, ktl])) dm_X7_read_259 (g_put (fs' := [.ref 9, ii ((j_e : Nat) : Int), ii (tqP (T j_e) : Int), ii 0, .long (Int64.ofInt (tqD (T 0))), .null, ktl]) (hl_set (hl_lt k_13)) rfl (by rw [List.set_set]) rfl (by simp) rfl (by decide) (fun z => by cases z) (by decide)) rfl rfl rfl ?_
              refine me1 (pc' := 263) (L' := [(2, .null), (1, zz (decide (ownN T))), (0, .ref 13)]) (S' := [.ref 13]) dm_X7_read_262 rfl rfl rfl rfl ?_
              refine me3 (pc' := 266) (S' := [.null]) dm_X7_read_263 (g_get (v := .null) (hl_set (hl_lt k_13)) rfl rfl (by decide)) rfl rfl rfl ?_
              refine me2 (pc' := 273) (S' := []) dm_X7_read_266 rfl rfl rfl ?_
              refine me0 (pc' := 274) (S' := [ii 0]) dm_X7_read_273 rfl rfl rfl rfl ?_
              refine y_ret (r := some (ii 0)) dm_X7_read_274 rfl rfl rfl ?_
              exact ⟨_, rfl, RL_e hlz (liR_x (liA_0 hls) ((liX_vn (by omega) e).trans (liE_1 hnz))) (hl_set (hl_lt k_13)) (rdF_set (Or.inl rfl) (rdF_tr g2F kF)) (by simp only [List.length_set]; omega) (by rw [sl_rd k_13]; omega)⟩
      refine me3 (pc' := 44) (S' := [.long (Int64.ofInt (tqD (T 0)))]) dm_X7_read_41 (g_get (v := .long (Int64.ofInt (tqD (T 0)))) (hl_set (hl_lt h13)) rfl rfl (by decide)) rfl rfl rfl ?_
      refine me3 (pc' := 47) (S' := [.long (Int64.ofInt 24), .long (Int64.ofInt (tqD (T 0)))]) dm_X7_read_44 rfl rfl rfl rfl ?_
      refine y_leq (x := Int64.ofInt (tqD (T 0))) (y := Int64.ofInt 24) (t := 62) (pc1 := 48) (pc' := 51) dm_X7_read_47 rfl dm_X7_read_48 rfl rfl (fun hb3 => ?_) (fun hb3 => ?_)
      · have hb3i := congrArg Int64.toInt hb3
        rw [e64, e24] at hb3i
        refine me0 (pc' := 63) (S' := [ii 1]) dm_X7_read_62 rfl rfl rfl rfl ?_
        refine me2 (pc' := 67) (S' := [ii 1]) dm_X7_read_63 rfl rfl rfl ?_
        refine pg_st (S' := [zz (decide (ownN T))]) (congrArg (fun z => z :: []) (zt (by omega))) ?_
        refine me1 (pc' := 68) (L' := [(1, zz (decide (ownN T))), (0, .ref 13)]) (S' := []) dm_X7_read_67 rfl rfl rfl rfl ?_
        exact pg_sub (L := [(1, zz (decide (ownN T))), (0, .ref 13)]) rfl rfl rfl jn68
      · have hb3i : ¬ (Int64.ofInt (tqD (T 0))).toInt = (Int64.ofInt 24).toInt := fun z => hb3 (Int64.toInt_inj.mp z)
        rw [e64, e24] at hb3i
        refine me1 (pc' := 52) (L' := [(0, .ref 13)]) (S' := [.ref 13]) dm_X7_read_51 rfl rfl rfl rfl ?_
        refine me3 (pc' := 55) (S' := [.long (Int64.ofInt (tqD (T 0)))]) dm_X7_read_52 (g_get (v := .long (Int64.ofInt (tqD (T 0)))) (hl_set (hl_lt h13)) rfl rfl (by decide)) rfl rfl rfl ?_
        refine me3 (pc' := 58) (S' := [.long (Int64.ofInt 25), .long (Int64.ofInt (tqD (T 0)))]) dm_X7_read_55 rfl rfl rfl rfl ?_
        refine y_lne (x := Int64.ofInt (tqD (T 0))) (y := Int64.ofInt 25) (t := 66) (pc1 := 59) (pc' := 62) dm_X7_read_58 rfl dm_X7_read_59 rfl rfl (fun hb4 => ?_) (fun hb4 => ?_)
        · have hb4i : ¬ (Int64.ofInt (tqD (T 0))).toInt = (Int64.ofInt 25).toInt := fun z => hb4 (Int64.toInt_inj.mp z)
          rw [e64, e25] at hb4i
          refine me0 (pc' := 67) (S' := [ii 0]) dm_X7_read_66 rfl rfl rfl rfl ?_
          refine pg_st (S' := [zz (decide (ownN T))]) (congrArg (fun z => z :: []) (zf (by omega))) ?_
          refine me1 (pc' := 68) (L' := [(1, zz (decide (ownN T))), (0, .ref 13)]) (S' := []) dm_X7_read_67 rfl rfl rfl rfl ?_
          exact pg_sub (L := [(1, zz (decide (ownN T))), (0, .ref 13)]) rfl rfl rfl jn68
        · have hb4i := congrArg Int64.toInt hb4
          rw [e64, e25] at hb4i
          refine me0 (pc' := 63) (S' := [ii 1]) dm_X7_read_62 rfl rfl rfl rfl ?_
          refine me2 (pc' := 67) (S' := [ii 1]) dm_X7_read_63 rfl rfl rfl ?_
          refine pg_st (S' := [zz (decide (ownN T))]) (congrArg (fun z => z :: []) (zt (by omega))) ?_
          refine me1 (pc' := 68) (L' := [(1, zz (decide (ownN T))), (0, .ref 13)]) (S' := []) dm_X7_read_67 rfl rfl rfl rfl ?_
          exact pg_sub (L := [(1, zz (decide (ownN T))), (0, .ref 13)]) rfl rfl rfl jn68
    · have hlz : ((liS T : Nat) : Int) = 1 := by rw [hls]; rfl
      refine pg_cast (h2 := (h).set 13 (cO 7 [.ref 9, ii ((0 : Nat) : Int), ii wr, ii 1, .long (Int64.ofInt (tqD (T 0))), st, tl])) (by rw [hlz]) ?_
      have h2m := liS_1 hls
      have hmk3 := TOKS_lt hK (i := 1) (by have := h2m.1; omega)
      have jn68 : pgE xt (d - 1) 7 3 false (Option.some Jvm.ClassFile.FieldType.boolean) (mj_dec prog_9_method_6_code) 68 [(1, zz (decide (ownN T))), (0, .ref 13)] [] ((h).set 13 (cO 7 [.ref 9, ii ((0 : Nat) : Int), ii wr, ii 1, .long (Int64.ofInt (tqD (T 0))), st, tl])) (fun r h' => ∃ x, r = some x ∧ RL A h T ln x h') := by
        refine me1 (pc' := 69) (L' := [(1, zz (decide (ownN T))), (0, .ref 13)]) (S' := [.ref 13]) dm_X7_read_68 rfl rfl rfl rfl ?_
        refine me3 (pc' := 72) (S' := [ii 1]) dm_X7_read_69 (g_get (v := ii 1) (hl_set (hl_lt h13)) rfl rfl (by decide)) rfl rfl rfl ?_
        refine me_1f (pc' := 75) dm_X7_read_72 rfl (by decide) rfl ?_
        refine me1 (pc' := 76) (L' := [(1, zz (decide (ownN T))), (0, .ref 13)]) (S' := [zz (decide (ownN T))]) dm_X7_read_75 rfl rfl rfl rfl ?_
        refine y_zne (c := decide (ownN T)) (t := 99) (pc' := 79) dm_X7_read_76 rfl rfl (fun hb5 => ?_) (fun hb5 => ?_)
        · replace hb5 := dT hb5
          have hown := hb5
          refine me1 (pc' := 100) (L' := [(1, zz (decide (ownN T))), (0, .ref 13)]) (S' := [.ref 13]) dm_X7_read_99 rfl rfl rfl rfl ?_
          refine me1 (pc' := 101) (L' := [(1, zz (decide (ownN T))), (0, .ref 13)]) (S' := [.ref 13, .ref 13]) dm_X7_read_100 rfl rfl rfl rfl ?_
          refine x_cv (pc' := 104) (rest := [.ref 13]) dm_X7_read_101 rfl (g_inv (As := []) (S := [.ref 13]) (hl_set (hl_lt h13)) rfl rfl rfl (by decide)) rfl rfl rfl (d_fail (i := 0) (by omega) hK (TT_set (by omega) hT) (hl_set (hl_lt h13)) (by omega) (by rw [List.set_set])) ?_
          rintro _ _ ⟨rfl, rfl⟩
          refine me3 (pc' := 107) (S' := []) (h1 := (h).set 13 (cO 7 [.ref 9, ii ((0 : Nat) : Int), ii (tqP (T 0) : Int), ii 1, .long (Int64.ofInt (tqD (T 0))), .null, tl])) dm_X7_read_104 (g_put (fs' := [.ref 9, ii ((0 : Nat) : Int), ii (tqP (T 0) : Int), ii 1, .long (Int64.ofInt (tqD (T 0))), .null, tl]) (hl_set (hl_lt h13)) rfl (by rw [List.set_set]) rfl (by simp) rfl (by decide) (fun z => by cases z) (by decide)) rfl rfl rfl ?_
          refine me0 (pc' := 108) (S' := [ii 0]) dm_X7_read_107 rfl rfl rfl rfl ?_
          refine y_ret (r := some (ii 0)) dm_X7_read_108 rfl rfl rfl ?_
          exact ⟨_, rfl, RL_e hlz (liR_a (liA_w ⟨by omega, Or.inl hown⟩)) (hl_set (hl_lt h13)) (rdF_set (Or.inl rfl) (rdF_rf h 13)) (by simp only [List.length_set]; omega) (by rw [sl_rd h13]; omega)⟩
        · replace hb5 := dF hb5
          have hnow := hb5
          refine me1 (pc' := 80) (L' := [(1, zz (decide (ownN T))), (0, .ref 13)]) (S' := [.ref 13]) dm_X7_read_79 rfl rfl rfl rfl ?_
          refine me3 (pc' := 83) (S' := [ii 1]) dm_X7_read_80 (g_get (v := ii 1) (hl_set (hl_lt h13)) rfl rfl (by decide)) rfl rfl rfl ?_
          refine me0 (pc' := 84) (S' := [ii 3, ii 1]) dm_X7_read_83 rfl rfl rfl rfl ?_
          refine me_2t (pc' := 109) dm_X7_read_84 rfl (by decide) ?_
          have hnw : ¬ liW T := fun z => z.2.elim hnow (fun y => by have := y.1; omega)
          refine me0 (pc' := 110) (S' := [.null]) dm_X7_read_109 rfl rfl rfl rfl ?_
          refine me1 (pc' := 111) (L' := [(2, .null), (1, zz (decide (ownN T))), (0, .ref 13)]) (S' := []) dm_X7_read_110 rfl rfl rfl rfl ?_
          refine me1 (pc' := 112) (L' := [(2, .null), (1, zz (decide (ownN T))), (0, .ref 13)]) (S' := [.ref 13]) dm_X7_read_111 rfl rfl rfl rfl ?_
          refine me3 (pc' := 115) (S' := [ii 1]) dm_X7_read_112 (g_get (v := ii 1) (hl_set (hl_lt h13)) rfl rfl (by decide)) rfl rfl rfl ?_
          refine me0 (pc' := 116) (S' := [ii 3, ii 1]) dm_X7_read_115 rfl rfl rfl rfl ?_
          refine me_2t (pc' := 158) dm_X7_read_116 rfl (by decide) ?_
          refine me1 (pc' := 159) (L' := [(2, .null), (1, zz (decide (ownN T))), (0, .ref 13)]) (S' := [.ref 13]) dm_X7_read_158 rfl rfl rfl rfl ?_
          refine me3 (pc' := 162) (S' := [ii 1]) dm_X7_read_159 (g_get (v := ii 1) (hl_set (hl_lt h13)) rfl rfl (by decide)) rfl rfl rfl ?_
          refine me_1f (pc' := 165) dm_X7_read_162 rfl (by decide) rfl ?_
          refine me1 (pc' := 166) (L' := [(2, .null), (1, zz (decide (ownN T))), (0, .ref 13)]) (S' := [.ref 13]) dm_X7_read_165 rfl rfl rfl rfl ?_
          refine me1 (pc' := 167) (L' := [(2, .null), (1, zz (decide (ownN T))), (0, .ref 13)]) (S' := [.ref 13, .ref 13]) dm_X7_read_166 rfl rfl rfl rfl ?_
          refine me3 (pc' := 170) (S' := [ii 1, .ref 13]) dm_X7_read_167 (g_get (v := ii 1) (hl_set (hl_lt h13)) rfl rfl (by decide)) rfl rfl rfl ?_
          refine me0 (pc' := 171) (S' := [ii 2, ii 1, .ref 13]) dm_X7_read_170 rfl rfl rfl rfl ?_
          refine me_2t (pc' := 178) dm_X7_read_171 rfl (by decide) ?_
          refine me0 (pc' := 179) (S' := [ii 2, .ref 13]) dm_X7_read_178 rfl rfl rfl rfl ?_
          refine pg_st (S' := [ii ((2 : Nat) : Int), .ref 13]) (congrArg (fun z => ii z :: [.ref 13]) (rfl)) ?_
          refine me3 (pc' := 182) (S' := []) (h1 := (h).set 13 (cO 7 [.ref 9, ii ((2 : Nat) : Int), ii wr, ii 1, .long (Int64.ofInt (tqD (T 0))), st, tl])) dm_X7_read_179 (g_put (fs' := [.ref 9, ii ((2 : Nat) : Int), ii wr, ii 1, .long (Int64.ofInt (tqD (T 0))), st, tl]) (hl_set (hl_lt h13)) rfl (by rw [List.set_set]) rfl (by simp) rfl (by decide) (fun z => by cases z) (by decide)) rfl rfl rfl ?_
          refine me1 (pc' := 183) (L' := [(2, .null), (1, zz (decide (ownN T))), (0, .ref 13)]) (S' := [.ref 13]) dm_X7_read_182 rfl rfl rfl rfl ?_
          refine me1 (pc' := 184) (L' := [(2, .null), (1, zz (decide (ownN T))), (0, .ref 13)]) (S' := [.ref 13, .ref 13]) dm_X7_read_183 rfl rfl rfl rfl ?_
          refine me1 (pc' := 185) (L' := [(2, .null), (1, zz (decide (ownN T))), (0, .ref 13)]) (S' := [.null, .ref 13, .ref 13]) dm_X7_read_184 rfl rfl rfl rfl ?_
          refine me1 (pc' := 186) (L' := [(2, .null), (1, zz (decide (ownN T))), (0, .ref 13)]) (S' := [.ref 13, .null, .ref 13, .ref 13]) dm_X7_read_185 rfl rfl rfl rfl ?_
          refine me3 (pc' := 189) (S' := [ii 1, .null, .ref 13, .ref 13]) dm_X7_read_186 (g_get (v := ii 1) (hl_set (hl_lt h13)) rfl rfl (by decide)) rfl rfl rfl ?_
          refine me0 (pc' := 190) (S' := [ii 2, ii 1, .null, .ref 13, .ref 13]) dm_X7_read_189 rfl rfl rfl rfl ?_
          refine me_2t (pc' := 197) dm_X7_read_190 rfl (by decide) ?_
          refine me0 (pc' := 198) (S' := [ii 0, .null, .ref 13, .ref 13]) dm_X7_read_197 rfl rfl rfl rfl ?_
          obtain ⟨g2, g2e⟩ : ∃ g2, g2 = ((h).set 13 (cO 7 [.ref 9, ii ((2 : Nat) : Int), ii wr, ii 1, .long (Int64.ofInt (tqD (T 0))), st, tl])) := ⟨_, rfl⟩
          have g2_13 : g2[13]? = some (cO 7 [.ref 9, ii ((2 : Nat) : Int), ii wr, ii 1, .long (Int64.ofInt (tqD (T 0))), st, tl]) := by rw [g2e]; exact (hl_set (hl_lt h13))
          have g2_9 : g2[9]? = some (cO 8 [.ref 10, .ref 11, .ref 12, ii ((mk + 1 : Nat) : Int), ii le_, .ref 3, .ref 4, ii (ln : Int), zz gd]) := by rw [g2e]; exact (hl_ne (by decide) h9)
          have g2T : TT g2 T mk ln := by rw [g2e]; exact (TT_set (by omega) hT)
          refine pg_cast (h2 := g2) g2e.symm ?_
          have g2l : g2.length = h.length := by rw [g2e]; simp
          have g2s : mj_sl g2 = mj_sl h := by rw [g2e]; exact sl_rd h13
          have g2F : rdF h g2 13 := by rw [g2e]; exact rdF_set (Or.inl rfl) (rdF_rf h 13)
          refine pg_st (S' := [ii ((0 : Nat) : Int), .null, .ref 13, .ref 13]) rfl ?_
          rcases e : pR T fuR 0 0 2 with p_e | j_e
          · refine x_cv (pc' := 201) (rest := [.ref 13]) dm_X7_read_198 rfl (g_inv (As := [.null, ii ((0 : Nat) : Int)]) (S := [.ref 13]) g2_13 rfl rfl rfl (by decide)) rfl rfl rfl (d_expr hx1 hK fuR _ g2 A 2 0 (none) wr tl (by omega) (by omega) (okA_len hA (by omega)) g2T g2_13 (by omega) (by omega) (by omega)) ?_
            rintro x2 k hx2_
            obtain ⟨kat, ktl, rfl, k_13, kF, kL, kS⟩ := RX_e e hx2_
            have kT : TT k T mk ln := rdF_TT kF (by decide) (by omega) g2T
            have kl := kF.1
            have k_9 : k[9]? = some (cO 8 [.ref 10, .ref 11, .ref 12, ii ((mk + 1 : Nat) : Int), ii le_, .ref 3, .ref 4, ii (ln : Int), zz gd]) := (kF.2 9 (by omega) (by omega) (by omega)).trans g2_9
            have hc1 : ceM 0 = 1 := rfl
            have hPa := P_ln hK 2
            refine me3 (pc' := 204) (S' := []) (h1 := (k).set 13 (cO 7 [.ref 9, ii kat, ii (p_e : Int), ii 1, .long (Int64.ofInt (tqD (T 0))), .null, ktl])) dm_X7_read_201 (g_put (fs' := [.ref 9, ii kat, ii (p_e : Int), ii 1, .long (Int64.ofInt (tqD (T 0))), .null, ktl]) k_13 rfl rfl rfl (by simp) rfl (by decide) (fun z => by cases z) (by decide)) rfl rfl rfl ?_
            refine me1 (pc' := 205) (L' := [(2, .null), (1, zz (decide (ownN T))), (0, .ref 13)]) (S' := [.ref 13]) dm_X7_read_204 rfl rfl rfl rfl ?_
            refine me3 (pc' := 208) (S' := [.null]) dm_X7_read_205 (g_get (v := .null) (hl_set (hl_lt k_13)) rfl rfl (by decide)) rfl rfl rfl ?_
            refine me2 (pc' := 228) (S' := []) dm_X7_read_208 rfl rfl rfl ?_
            refine me0 (pc' := 229) (S' := [ii 0]) dm_X7_read_228 rfl rfl rfl rfl ?_
            refine y_ret (r := some (ii 0)) dm_X7_read_229 rfl rfl rfl ?_
            exact ⟨_, rfl, RL_e hlz (liR_x (liA_1 hnw hls) (liX_en (by omega) e)) (hl_set (hl_lt k_13)) (rdF_set (Or.inl rfl) (rdF_tr g2F kF)) (by simp only [List.length_set]; omega) (by rw [sl_rd k_13]; omega)⟩
          · refine x_cv (pc' := 201) (rest := [.ref 13]) dm_X7_read_198 rfl (g_inv (As := [.null, ii ((0 : Nat) : Int)]) (S := [.ref 13]) g2_13 rfl rfl rfl (by decide)) rfl rfl rfl (d_expr hx1 hK fuR _ g2 A 2 0 (none) wr tl (by omega) (by omega) (okA_len hA (by omega)) g2T g2_13 (by omega) (by omega) (by omega)) ?_
            rintro x2 k hx2_
            obtain ⟨kop, kwr, ktl, rfl, k_13, kF, kO, kC, kL, kS⟩ := RX_v e hx2_
            have kT : TT k T mk ln := rdF_TT kF (by decide) (by omega) g2T
            have kl := kF.1
            have k_9 : k[9]? = some (cO 8 [.ref 10, .ref 11, .ref 12, ii ((mk + 1 : Nat) : Int), ii le_, .ref 3, .ref 4, ii (ln : Int), zz gd]) := (kF.2 9 (by omega) (by omega) (by omega)).trans g2_9
            have hc1 : ceM 0 = 1 := rfl
            have hPa := P_ln hK 2
            have hj := pR_mk hK _ 0 _ _ _ (show 2 ≤ mk by omega) e
            have hPj := P_ln hK j_e
            refine me3 (pc' := 204) (S' := []) (h1 := (k).set 13 (cO 7 [.ref 9, ii ((j_e : Nat) : Int), ii kwr, ii 1, .long (Int64.ofInt (tqD (T 0))), .ref kop, ktl])) dm_X7_read_201 (g_put (fs' := [.ref 9, ii ((j_e : Nat) : Int), ii kwr, ii 1, .long (Int64.ofInt (tqD (T 0))), .ref kop, ktl]) k_13 rfl rfl rfl (by simp) rfl (by decide) (fun z => by cases z) (by decide)) rfl rfl rfl ?_
            refine me1 (pc' := 205) (L' := [(2, .null), (1, zz (decide (ownN T))), (0, .ref 13)]) (S' := [.ref 13]) dm_X7_read_204 rfl rfl rfl rfl ?_
            refine me3 (pc' := 208) (S' := [.ref kop]) dm_X7_read_205 (g_get (v := .ref kop) (hl_set (hl_lt k_13)) rfl rfl (by decide)) rfl rfl rfl ?_
            refine me2 (pc' := 211) (S' := []) dm_X7_read_208 rfl rfl rfl ?_
            refine me1 (pc' := 212) (L' := [(2, .null), (1, zz (decide (ownN T))), (0, .ref 13)]) (S' := [.ref 13]) dm_X7_read_211 rfl rfl rfl rfl ?_
            refine me3 (pc' := 215) (S' := [ii 1]) dm_X7_read_212 (g_get (v := ii 1) (hl_set (hl_lt k_13)) rfl rfl (by decide)) rfl rfl rfl ?_
            refine me0 (pc' := 216) (S' := [ii 2, ii 1]) dm_X7_read_215 rfl rfl rfl rfl ?_
            refine me_2t (pc' := 230) dm_X7_read_216 rfl (by decide) ?_
            have c8j := cS_r hK j_e
            refine me1 (pc' := 231) (L' := [(2, .null), (1, zz (decide (ownN T))), (0, .ref 13)]) (S' := [.ref 13]) dm_X7_read_230 rfl rfl rfl rfl ?_
            refine me3 (pc' := 234) (S' := [.ref 9]) dm_X7_read_231 (g_get (v := .ref 9) (hl_set (hl_lt k_13)) rfl rfl (by decide)) rfl rfl rfl ?_
            refine me1 (pc' := 235) (L' := [(2, .null), (1, zz (decide (ownN T))), (0, .ref 13)]) (S' := [.ref 13, .ref 9]) dm_X7_read_234 rfl rfl rfl rfl ?_
            refine me3 (pc' := 238) (S' := [ii ((j_e : Nat) : Int), .ref 9]) dm_X7_read_235 (g_get (v := ii ((j_e : Nat) : Int)) (hl_set (hl_lt k_13)) rfl rfl (by decide)) rfl rfl rfl ?_
            refine x_cp (pc' := 241) (v := ii ((cS T j_e : Nat) : Int)) (rest := []) dm_X7_read_238 rfl (g_inv (As := [ii ((j_e : Nat) : Int)]) (S := []) (hl_ne (by decide) k_9) rfl rfl rfl (by decide)) rfl rfl rfl (tt_sort (i := j_e) (by omega) hK (TT_set (by omega) kT) (by omega)) ?_
            refine y_1ne (a := ((cS T j_e : Nat) : Int)) (t := 254) (pc' := 244) dm_X7_read_241 rfl rfl (by omega) (fun hb6 => ?_) (fun hb6 => ?_)
            · have hnz : ¬ tqS (T j_e) = 0 := by have := (cS_7 T j_e).2.2.2.2.2.2.2; omega
              refine me1 (pc' := 255) (L' := [(2, .null), (1, zz (decide (ownN T))), (0, .ref 13)]) (S' := [.ref 13]) dm_X7_read_254 rfl rfl rfl rfl ?_
              refine me1 (pc' := 256) (L' := [(2, .null), (1, zz (decide (ownN T))), (0, .ref 13)]) (S' := [.ref 13, .ref 13]) dm_X7_read_255 rfl rfl rfl rfl ?_
              refine x_cv (pc' := 259) (rest := [.ref 13]) dm_X7_read_256 rfl (g_inv (As := []) (S := [.ref 13]) (hl_set (hl_lt k_13)) rfl rfl rfl (by decide)) rfl rfl rfl (d_fail (i := j_e) (by omega) hK (TT_set (by omega) kT) (hl_set (hl_lt k_13)) (by omega) (by rw [List.set_set])) ?_
              rintro _ _ ⟨rfl, rfl⟩
              refine me3 (pc' := 262) (S' := []) (h1 := (k).set 13 (cO 7 [.ref 9, ii ((j_e : Nat) : Int), ii (tqP (T j_e) : Int), ii 1, .long (Int64.ofInt (tqD (T 0))), .null, ktl])) dm_X7_read_259 (g_put (fs' := [.ref 9, ii ((j_e : Nat) : Int), ii (tqP (T j_e) : Int), ii 1, .long (Int64.ofInt (tqD (T 0))), .null, ktl]) (hl_set (hl_lt k_13)) rfl (by rw [List.set_set]) rfl (by simp) rfl (by decide) (fun z => by cases z) (by decide)) rfl rfl rfl ?_
              refine me1 (pc' := 263) (L' := [(2, .null), (1, zz (decide (ownN T))), (0, .ref 13)]) (S' := [.ref 13]) dm_X7_read_262 rfl rfl rfl rfl ?_
              refine me3 (pc' := 266) (S' := [.null]) dm_X7_read_263 (g_get (v := .null) (hl_set (hl_lt k_13)) rfl rfl (by decide)) rfl rfl rfl ?_
              refine me2 (pc' := 273) (S' := []) dm_X7_read_266 rfl rfl rfl ?_
              refine me0 (pc' := 274) (S' := [ii 0]) dm_X7_read_273 rfl rfl rfl rfl ?_
              refine y_ret (r := some (ii 0)) dm_X7_read_274 rfl rfl rfl ?_
              exact ⟨_, rfl, RL_e hlz (liR_x (liA_1 hnw hls) ((liX_vn (by omega) e).trans (liE_1 hnz))) (hl_set (hl_lt k_13)) (rdF_set (Or.inl rfl) (rdF_tr g2F kF)) (by simp only [List.length_set]; omega) (by rw [sl_rd k_13]; omega)⟩
            · refine me1 (pc' := 245) (L' := [(2, .null), (1, zz (decide (ownN T))), (0, .ref 13)]) (S' := [.ref 13]) dm_X7_read_244 rfl rfl rfl rfl ?_
              refine me3 (pc' := 248) (S' := [.ref 9]) dm_X7_read_245 (g_get (v := .ref 9) (hl_set (hl_lt k_13)) rfl rfl (by decide)) rfl rfl rfl ?_
              refine x_cp (pc' := 251) (v := zz (decide (tqS (T mk) = 0))) (rest := []) dm_X7_read_248 rfl (g_inv (As := []) (S := []) (hl_ne (by decide) k_9) rfl rfl rfl (by decide)) rfl rfl rfl (tt_whole (i := 0) (by omega) hK (TT_set (by omega) kT)) ?_
              refine y_zne (c := decide (tqS (T mk) = 0)) (t := 262) (pc' := 254) dm_X7_read_251 rfl rfl (fun hb7 => ?_) (fun hb7 => ?_)
              · replace hb7 := dT hb7
                have hzm := hb7
                have hjmk : j_e = mk := Classical.byContradiction fun z => by have := hK.2.2.1 j_e (by omega); have := (cS_7 T j_e).2.2.2.2.2.2.2; omega
                have hz0 : tqS (T j_e) = 0 := by rw [hjmk]; exact hzm
                refine me1 (pc' := 263) (L' := [(2, .null), (1, zz (decide (ownN T))), (0, .ref 13)]) (S' := [.ref 13]) dm_X7_read_262 rfl rfl rfl rfl ?_
                refine me3 (pc' := 266) (S' := [.ref kop]) dm_X7_read_263 (g_get (v := .ref kop) (hl_set (hl_lt k_13)) rfl rfl (by decide)) rfl rfl rfl ?_
                refine me2 (pc' := 269) (S' := []) dm_X7_read_266 rfl rfl rfl ?_
                refine me0 (pc' := 270) (S' := [ii 1]) dm_X7_read_269 rfl rfl rfl rfl ?_
                refine me2 (pc' := 274) (S' := [ii 1]) dm_X7_read_270 rfl rfl rfl ?_
                refine y_ret (r := some (ii 1)) dm_X7_read_274 rfl rfl rfl ?_
                exact ⟨_, rfl, RL_v hlz (liR_v (liA_1 hnw hls) ((liX_vn (by omega) e).trans (liE_0 hz0))) (hl_set (hl_lt k_13)) (rdF_set (Or.inl rfl) (rdF_tr g2F kF)) (by simp only [List.length_set]; omega) (by rw [sl_rd k_13]; omega) ⟨by omega, by omega, by simp only [List.length_set]; omega⟩ (cL_n (o := 0) (by omega) (by rw [hls]; rfl) (cR_k (kp_rd (A := A) (g := g2) hA hl (by omega) (rdF_set (Or.inl rfl) (rdF_rf k 13)) (Or.inl rfl)) _ _ _ _ _ _ _ _ kC))⟩
              · replace hb7 := dF hb7
                have hnzm := hb7
                have hjmk : j_e = mk := Classical.byContradiction fun z => by have := hK.2.2.1 j_e (by omega); have := (cS_7 T j_e).2.2.2.2.2.2.2; omega
                have hnz : ¬ tqS (T j_e) = 0 := by rw [hjmk]; exact hnzm
                refine me1 (pc' := 255) (L' := [(2, .null), (1, zz (decide (ownN T))), (0, .ref 13)]) (S' := [.ref 13]) dm_X7_read_254 rfl rfl rfl rfl ?_
                refine me1 (pc' := 256) (L' := [(2, .null), (1, zz (decide (ownN T))), (0, .ref 13)]) (S' := [.ref 13, .ref 13]) dm_X7_read_255 rfl rfl rfl rfl ?_
                refine x_cv (pc' := 259) (rest := [.ref 13]) dm_X7_read_256 rfl (g_inv (As := []) (S := [.ref 13]) (hl_set (hl_lt k_13)) rfl rfl rfl (by decide)) rfl rfl rfl (d_fail (i := j_e) (by omega) hK (TT_set (by omega) kT) (hl_set (hl_lt k_13)) (by omega) (by rw [List.set_set])) ?_
                rintro _ _ ⟨rfl, rfl⟩
                refine me3 (pc' := 262) (S' := []) (h1 := (k).set 13 (cO 7 [.ref 9, ii ((j_e : Nat) : Int), ii (tqP (T j_e) : Int), ii 1, .long (Int64.ofInt (tqD (T 0))), .null, ktl])) dm_X7_read_259 (g_put (fs' := [.ref 9, ii ((j_e : Nat) : Int), ii (tqP (T j_e) : Int), ii 1, .long (Int64.ofInt (tqD (T 0))), .null, ktl]) (hl_set (hl_lt k_13)) rfl (by rw [List.set_set]) rfl (by simp) rfl (by decide) (fun z => by cases z) (by decide)) rfl rfl rfl ?_
                refine me1 (pc' := 263) (L' := [(2, .null), (1, zz (decide (ownN T))), (0, .ref 13)]) (S' := [.ref 13]) dm_X7_read_262 rfl rfl rfl rfl ?_
                refine me3 (pc' := 266) (S' := [.null]) dm_X7_read_263 (g_get (v := .null) (hl_set (hl_lt k_13)) rfl rfl (by decide)) rfl rfl rfl ?_
                refine me2 (pc' := 273) (S' := []) dm_X7_read_266 rfl rfl rfl ?_
                refine me0 (pc' := 274) (S' := [ii 0]) dm_X7_read_273 rfl rfl rfl rfl ?_
                refine y_ret (r := some (ii 0)) dm_X7_read_274 rfl rfl rfl ?_
                exact ⟨_, rfl, RL_e hlz (liR_x (liA_1 hnw hls) ((liX_vn (by omega) e).trans (liE_1 hnz))) (hl_set (hl_lt k_13)) (rdF_set (Or.inl rfl) (rdF_tr g2F kF)) (by simp only [List.length_set]; omega) (by rw [sl_rd k_13]; omega)⟩
      refine me3 (pc' := 44) (S' := [.long (Int64.ofInt (tqD (T 0)))]) dm_X7_read_41 (g_get (v := .long (Int64.ofInt (tqD (T 0)))) (hl_set (hl_lt h13)) rfl rfl (by decide)) rfl rfl rfl ?_
      refine me3 (pc' := 47) (S' := [.long (Int64.ofInt 24), .long (Int64.ofInt (tqD (T 0)))]) dm_X7_read_44 rfl rfl rfl rfl ?_
      refine y_leq (x := Int64.ofInt (tqD (T 0))) (y := Int64.ofInt 24) (t := 62) (pc1 := 48) (pc' := 51) dm_X7_read_47 rfl dm_X7_read_48 rfl rfl (fun hb8 => ?_) (fun hb8 => ?_)
      · have hb8i := congrArg Int64.toInt hb8
        rw [e64, e24] at hb8i
        refine me0 (pc' := 63) (S' := [ii 1]) dm_X7_read_62 rfl rfl rfl rfl ?_
        refine me2 (pc' := 67) (S' := [ii 1]) dm_X7_read_63 rfl rfl rfl ?_
        refine pg_st (S' := [zz (decide (ownN T))]) (congrArg (fun z => z :: []) (zt (by omega))) ?_
        refine me1 (pc' := 68) (L' := [(1, zz (decide (ownN T))), (0, .ref 13)]) (S' := []) dm_X7_read_67 rfl rfl rfl rfl ?_
        exact pg_sub (L := [(1, zz (decide (ownN T))), (0, .ref 13)]) rfl rfl rfl jn68
      · have hb8i : ¬ (Int64.ofInt (tqD (T 0))).toInt = (Int64.ofInt 24).toInt := fun z => hb8 (Int64.toInt_inj.mp z)
        rw [e64, e24] at hb8i
        refine me1 (pc' := 52) (L' := [(0, .ref 13)]) (S' := [.ref 13]) dm_X7_read_51 rfl rfl rfl rfl ?_
        refine me3 (pc' := 55) (S' := [.long (Int64.ofInt (tqD (T 0)))]) dm_X7_read_52 (g_get (v := .long (Int64.ofInt (tqD (T 0)))) (hl_set (hl_lt h13)) rfl rfl (by decide)) rfl rfl rfl ?_
        refine me3 (pc' := 58) (S' := [.long (Int64.ofInt 25), .long (Int64.ofInt (tqD (T 0)))]) dm_X7_read_55 rfl rfl rfl rfl ?_
        refine y_lne (x := Int64.ofInt (tqD (T 0))) (y := Int64.ofInt 25) (t := 66) (pc1 := 59) (pc' := 62) dm_X7_read_58 rfl dm_X7_read_59 rfl rfl (fun hb9 => ?_) (fun hb9 => ?_)
        · have hb9i : ¬ (Int64.ofInt (tqD (T 0))).toInt = (Int64.ofInt 25).toInt := fun z => hb9 (Int64.toInt_inj.mp z)
          rw [e64, e25] at hb9i
          refine me0 (pc' := 67) (S' := [ii 0]) dm_X7_read_66 rfl rfl rfl rfl ?_
          refine pg_st (S' := [zz (decide (ownN T))]) (congrArg (fun z => z :: []) (zf (by omega))) ?_
          refine me1 (pc' := 68) (L' := [(1, zz (decide (ownN T))), (0, .ref 13)]) (S' := []) dm_X7_read_67 rfl rfl rfl rfl ?_
          exact pg_sub (L := [(1, zz (decide (ownN T))), (0, .ref 13)]) rfl rfl rfl jn68
        · have hb9i := congrArg Int64.toInt hb9
          rw [e64, e25] at hb9i
          refine me0 (pc' := 63) (S' := [ii 1]) dm_X7_read_62 rfl rfl rfl rfl ?_
          refine me2 (pc' := 67) (S' := [ii 1]) dm_X7_read_63 rfl rfl rfl ?_
          refine pg_st (S' := [zz (decide (ownN T))]) (congrArg (fun z => z :: []) (zt (by omega))) ?_
          refine me1 (pc' := 68) (L' := [(1, zz (decide (ownN T))), (0, .ref 13)]) (S' := []) dm_X7_read_67 rfl rfl rfl rfl ?_
          exact pg_sub (L := [(1, zz (decide (ownN T))), (0, .ref 13)]) rfl rfl rfl jn68
    · have hlz : ((liS T : Nat) : Int) = 2 := by rw [hls]; rfl
      refine pg_cast (h2 := (h).set 13 (cO 7 [.ref 9, ii ((0 : Nat) : Int), ii wr, ii 2, .long (Int64.ofInt (tqD (T 0))), st, tl])) (by rw [hlz]) ?_
      have h2m := liS_2 hls
      have hmk3 := TOKS_lt hK (i := 2) (by have := h2m.1; omega)
      have jn68 : pgE xt (d - 1) 7 3 false (Option.some Jvm.ClassFile.FieldType.boolean) (mj_dec prog_9_method_6_code) 68 [(1, zz (decide (ownN T))), (0, .ref 13)] [] ((h).set 13 (cO 7 [.ref 9, ii ((0 : Nat) : Int), ii wr, ii 2, .long (Int64.ofInt (tqD (T 0))), st, tl])) (fun r h' => ∃ x, r = some x ∧ RL A h T ln x h') := by
        refine me1 (pc' := 69) (L' := [(1, zz (decide (ownN T))), (0, .ref 13)]) (S' := [.ref 13]) dm_X7_read_68 rfl rfl rfl rfl ?_
        refine me3 (pc' := 72) (S' := [ii 2]) dm_X7_read_69 (g_get (v := ii 2) (hl_set (hl_lt h13)) rfl rfl (by decide)) rfl rfl rfl ?_
        refine me_1f (pc' := 75) dm_X7_read_72 rfl (by decide) rfl ?_
        refine me1 (pc' := 76) (L' := [(1, zz (decide (ownN T))), (0, .ref 13)]) (S' := [zz (decide (ownN T))]) dm_X7_read_75 rfl rfl rfl rfl ?_
        refine y_zne (c := decide (ownN T)) (t := 99) (pc' := 79) dm_X7_read_76 rfl rfl (fun hb10 => ?_) (fun hb10 => ?_)
        · replace hb10 := dT hb10
          have hown := hb10
          refine me1 (pc' := 100) (L' := [(1, zz (decide (ownN T))), (0, .ref 13)]) (S' := [.ref 13]) dm_X7_read_99 rfl rfl rfl rfl ?_
          refine me1 (pc' := 101) (L' := [(1, zz (decide (ownN T))), (0, .ref 13)]) (S' := [.ref 13, .ref 13]) dm_X7_read_100 rfl rfl rfl rfl ?_
          refine x_cv (pc' := 104) (rest := [.ref 13]) dm_X7_read_101 rfl (g_inv (As := []) (S := [.ref 13]) (hl_set (hl_lt h13)) rfl rfl rfl (by decide)) rfl rfl rfl (d_fail (i := 0) (by omega) hK (TT_set (by omega) hT) (hl_set (hl_lt h13)) (by omega) (by rw [List.set_set])) ?_
          rintro _ _ ⟨rfl, rfl⟩
          refine me3 (pc' := 107) (S' := []) (h1 := (h).set 13 (cO 7 [.ref 9, ii ((0 : Nat) : Int), ii (tqP (T 0) : Int), ii 2, .long (Int64.ofInt (tqD (T 0))), .null, tl])) dm_X7_read_104 (g_put (fs' := [.ref 9, ii ((0 : Nat) : Int), ii (tqP (T 0) : Int), ii 2, .long (Int64.ofInt (tqD (T 0))), .null, tl]) (hl_set (hl_lt h13)) rfl (by rw [List.set_set]) rfl (by simp) rfl (by decide) (fun z => by cases z) (by decide)) rfl rfl rfl ?_
          refine me0 (pc' := 108) (S' := [ii 0]) dm_X7_read_107 rfl rfl rfl rfl ?_
          refine y_ret (r := some (ii 0)) dm_X7_read_108 rfl rfl rfl ?_
          exact ⟨_, rfl, RL_e hlz (liR_a (liA_w ⟨by omega, Or.inl hown⟩)) (hl_set (hl_lt h13)) (rdF_set (Or.inl rfl) (rdF_rf h 13)) (by simp only [List.length_set]; omega) (by rw [sl_rd h13]; omega)⟩
        · replace hb10 := dF hb10
          have hnow := hb10
          refine me1 (pc' := 80) (L' := [(1, zz (decide (ownN T))), (0, .ref 13)]) (S' := [.ref 13]) dm_X7_read_79 rfl rfl rfl rfl ?_
          refine me3 (pc' := 83) (S' := [ii 2]) dm_X7_read_80 (g_get (v := ii 2) (hl_set (hl_lt h13)) rfl rfl (by decide)) rfl rfl rfl ?_
          refine me0 (pc' := 84) (S' := [ii 3, ii 2]) dm_X7_read_83 rfl rfl rfl rfl ?_
          refine me_2t (pc' := 109) dm_X7_read_84 rfl (by decide) ?_
          have hnw : ¬ liW T := fun z => z.2.elim hnow (fun y => by have := y.1; omega)
          refine me0 (pc' := 110) (S' := [.null]) dm_X7_read_109 rfl rfl rfl rfl ?_
          refine me1 (pc' := 111) (L' := [(2, .null), (1, zz (decide (ownN T))), (0, .ref 13)]) (S' := []) dm_X7_read_110 rfl rfl rfl rfl ?_
          refine me1 (pc' := 112) (L' := [(2, .null), (1, zz (decide (ownN T))), (0, .ref 13)]) (S' := [.ref 13]) dm_X7_read_111 rfl rfl rfl rfl ?_
          refine me3 (pc' := 115) (S' := [ii 2]) dm_X7_read_112 (g_get (v := ii 2) (hl_set (hl_lt h13)) rfl rfl (by decide)) rfl rfl rfl ?_
          refine me0 (pc' := 116) (S' := [ii 3, ii 2]) dm_X7_read_115 rfl rfl rfl rfl ?_
          refine me_2t (pc' := 158) dm_X7_read_116 rfl (by decide) ?_
          refine me1 (pc' := 159) (L' := [(2, .null), (1, zz (decide (ownN T))), (0, .ref 13)]) (S' := [.ref 13]) dm_X7_read_158 rfl rfl rfl rfl ?_
          refine me3 (pc' := 162) (S' := [ii 2]) dm_X7_read_159 (g_get (v := ii 2) (hl_set (hl_lt h13)) rfl rfl (by decide)) rfl rfl rfl ?_
          refine me_1f (pc' := 165) dm_X7_read_162 rfl (by decide) rfl ?_
          refine me1 (pc' := 166) (L' := [(2, .null), (1, zz (decide (ownN T))), (0, .ref 13)]) (S' := [.ref 13]) dm_X7_read_165 rfl rfl rfl rfl ?_
          refine me1 (pc' := 167) (L' := [(2, .null), (1, zz (decide (ownN T))), (0, .ref 13)]) (S' := [.ref 13, .ref 13]) dm_X7_read_166 rfl rfl rfl rfl ?_
          refine me3 (pc' := 170) (S' := [ii 2, .ref 13]) dm_X7_read_167 (g_get (v := ii 2) (hl_set (hl_lt h13)) rfl rfl (by decide)) rfl rfl rfl ?_
          refine me0 (pc' := 171) (S' := [ii 2, ii 2, .ref 13]) dm_X7_read_170 rfl rfl rfl rfl ?_
          refine me_2f (pc' := 174) dm_X7_read_171 rfl (by decide) rfl ?_
          refine me0 (pc' := 175) (S' := [ii 3, .ref 13]) dm_X7_read_174 rfl rfl rfl rfl ?_
          refine me2 (pc' := 179) (S' := [ii 3, .ref 13]) dm_X7_read_175 rfl rfl rfl ?_
          refine pg_st (S' := [ii ((3 : Nat) : Int), .ref 13]) (congrArg (fun z => ii z :: [.ref 13]) (rfl)) ?_
          refine me3 (pc' := 182) (S' := []) (h1 := (h).set 13 (cO 7 [.ref 9, ii ((3 : Nat) : Int), ii wr, ii 2, .long (Int64.ofInt (tqD (T 0))), st, tl])) dm_X7_read_179 (g_put (fs' := [.ref 9, ii ((3 : Nat) : Int), ii wr, ii 2, .long (Int64.ofInt (tqD (T 0))), st, tl]) (hl_set (hl_lt h13)) rfl (by rw [List.set_set]) rfl (by simp) rfl (by decide) (fun z => by cases z) (by decide)) rfl rfl rfl ?_
          refine me1 (pc' := 183) (L' := [(2, .null), (1, zz (decide (ownN T))), (0, .ref 13)]) (S' := [.ref 13]) dm_X7_read_182 rfl rfl rfl rfl ?_
          refine me1 (pc' := 184) (L' := [(2, .null), (1, zz (decide (ownN T))), (0, .ref 13)]) (S' := [.ref 13, .ref 13]) dm_X7_read_183 rfl rfl rfl rfl ?_
          refine me1 (pc' := 185) (L' := [(2, .null), (1, zz (decide (ownN T))), (0, .ref 13)]) (S' := [.null, .ref 13, .ref 13]) dm_X7_read_184 rfl rfl rfl rfl ?_
          refine me1 (pc' := 186) (L' := [(2, .null), (1, zz (decide (ownN T))), (0, .ref 13)]) (S' := [.ref 13, .null, .ref 13, .ref 13]) dm_X7_read_185 rfl rfl rfl rfl ?_
          refine me3 (pc' := 189) (S' := [ii 2, .null, .ref 13, .ref 13]) dm_X7_read_186 (g_get (v := ii 2) (hl_set (hl_lt h13)) rfl rfl (by decide)) rfl rfl rfl ?_
          refine me0 (pc' := 190) (S' := [ii 2, ii 2, .null, .ref 13, .ref 13]) dm_X7_read_189 rfl rfl rfl rfl ?_
          refine me_2f (pc' := 193) dm_X7_read_190 rfl (by decide) rfl ?_
          refine me0 (pc' := 194) (S' := [ii 1, .null, .ref 13, .ref 13]) dm_X7_read_193 rfl rfl rfl rfl ?_
          refine me2 (pc' := 198) (S' := [ii 1, .null, .ref 13, .ref 13]) dm_X7_read_194 rfl rfl rfl ?_
          obtain ⟨g2, g2e⟩ : ∃ g2, g2 = ((h).set 13 (cO 7 [.ref 9, ii ((3 : Nat) : Int), ii wr, ii 2, .long (Int64.ofInt (tqD (T 0))), st, tl])) := ⟨_, rfl⟩
          have g2_13 : g2[13]? = some (cO 7 [.ref 9, ii ((3 : Nat) : Int), ii wr, ii 2, .long (Int64.ofInt (tqD (T 0))), st, tl]) := by rw [g2e]; exact (hl_set (hl_lt h13))
          have g2_9 : g2[9]? = some (cO 8 [.ref 10, .ref 11, .ref 12, ii ((mk + 1 : Nat) : Int), ii le_, .ref 3, .ref 4, ii (ln : Int), zz gd]) := by rw [g2e]; exact (hl_ne (by decide) h9)
          have g2T : TT g2 T mk ln := by rw [g2e]; exact (TT_set (by omega) hT)
          refine pg_cast (h2 := g2) g2e.symm ?_
          have g2l : g2.length = h.length := by rw [g2e]; simp
          have g2s : mj_sl g2 = mj_sl h := by rw [g2e]; exact sl_rd h13
          have g2F : rdF h g2 13 := by rw [g2e]; exact rdF_set (Or.inl rfl) (rdF_rf h 13)
          refine pg_st (S' := [ii ((1 : Nat) : Int), .null, .ref 13, .ref 13]) rfl ?_
          rcases e : pR T fuR 0 1 3 with p_e | j_e
          · refine x_cv (pc' := 201) (rest := [.ref 13]) dm_X7_read_198 rfl (g_inv (As := [.null, ii ((1 : Nat) : Int)]) (S := [.ref 13]) g2_13 rfl rfl rfl (by decide)) rfl rfl rfl (d_expr hx1 hK fuR _ g2 A 3 1 (none) wr tl (by omega) (by omega) (okA_len hA (by omega)) g2T g2_13 (by omega) (by omega) (by omega)) ?_
            rintro x2 k hx2_
            obtain ⟨kat, ktl, rfl, k_13, kF, kL, kS⟩ := RX_e e hx2_
            have kT : TT k T mk ln := rdF_TT kF (by decide) (by omega) g2T
            have kl := kF.1
            have k_9 : k[9]? = some (cO 8 [.ref 10, .ref 11, .ref 12, ii ((mk + 1 : Nat) : Int), ii le_, .ref 3, .ref 4, ii (ln : Int), zz gd]) := (kF.2 9 (by omega) (by omega) (by omega)).trans g2_9
            have hc1 : ceM 0 = 1 := rfl
            have hPa := P_ln hK 3
            refine me3 (pc' := 204) (S' := []) (h1 := (k).set 13 (cO 7 [.ref 9, ii kat, ii (p_e : Int), ii 2, .long (Int64.ofInt (tqD (T 0))), .null, ktl])) dm_X7_read_201 (g_put (fs' := [.ref 9, ii kat, ii (p_e : Int), ii 2, .long (Int64.ofInt (tqD (T 0))), .null, ktl]) k_13 rfl rfl rfl (by simp) rfl (by decide) (fun z => by cases z) (by decide)) rfl rfl rfl ?_
            refine me1 (pc' := 205) (L' := [(2, .null), (1, zz (decide (ownN T))), (0, .ref 13)]) (S' := [.ref 13]) dm_X7_read_204 rfl rfl rfl rfl ?_
            refine me3 (pc' := 208) (S' := [.null]) dm_X7_read_205 (g_get (v := .null) (hl_set (hl_lt k_13)) rfl rfl (by decide)) rfl rfl rfl ?_
            refine me2 (pc' := 228) (S' := []) dm_X7_read_208 rfl rfl rfl ?_
            refine me0 (pc' := 229) (S' := [ii 0]) dm_X7_read_228 rfl rfl rfl rfl ?_
            refine y_ret (r := some (ii 0)) dm_X7_read_229 rfl rfl rfl ?_
            exact ⟨_, rfl, RL_e hlz (liR_x (liA_2 hnw hls) (liX_e2 hls e)) (hl_set (hl_lt k_13)) (rdF_set (Or.inl rfl) (rdF_tr g2F kF)) (by simp only [List.length_set]; omega) (by rw [sl_rd k_13]; omega)⟩
          · refine x_cv (pc' := 201) (rest := [.ref 13]) dm_X7_read_198 rfl (g_inv (As := [.null, ii ((1 : Nat) : Int)]) (S := [.ref 13]) g2_13 rfl rfl rfl (by decide)) rfl rfl rfl (d_expr hx1 hK fuR _ g2 A 3 1 (none) wr tl (by omega) (by omega) (okA_len hA (by omega)) g2T g2_13 (by omega) (by omega) (by omega)) ?_
            rintro x2 k hx2_
            obtain ⟨kop, kwr, ktl, rfl, k_13, kF, kO, kC, kL, kS⟩ := RX_v e hx2_
            have kT : TT k T mk ln := rdF_TT kF (by decide) (by omega) g2T
            have kl := kF.1
            have k_9 : k[9]? = some (cO 8 [.ref 10, .ref 11, .ref 12, ii ((mk + 1 : Nat) : Int), ii le_, .ref 3, .ref 4, ii (ln : Int), zz gd]) := (kF.2 9 (by omega) (by omega) (by omega)).trans g2_9
            have hc1 : ceM 0 = 1 := rfl
            have hPa := P_ln hK 3
            have hj := pR_mk hK _ 0 _ _ _ (show 3 ≤ mk by omega) e
            have hPj := P_ln hK j_e
            refine me3 (pc' := 204) (S' := []) (h1 := (k).set 13 (cO 7 [.ref 9, ii ((j_e : Nat) : Int), ii kwr, ii 2, .long (Int64.ofInt (tqD (T 0))), .ref kop, ktl])) dm_X7_read_201 (g_put (fs' := [.ref 9, ii ((j_e : Nat) : Int), ii kwr, ii 2, .long (Int64.ofInt (tqD (T 0))), .ref kop, ktl]) k_13 rfl rfl rfl (by simp) rfl (by decide) (fun z => by cases z) (by decide)) rfl rfl rfl ?_
            refine me1 (pc' := 205) (L' := [(2, .null), (1, zz (decide (ownN T))), (0, .ref 13)]) (S' := [.ref 13]) dm_X7_read_204 rfl rfl rfl rfl ?_
            refine me3 (pc' := 208) (S' := [.ref kop]) dm_X7_read_205 (g_get (v := .ref kop) (hl_set (hl_lt k_13)) rfl rfl (by decide)) rfl rfl rfl ?_
            refine me2 (pc' := 211) (S' := []) dm_X7_read_208 rfl rfl rfl ?_
            refine me1 (pc' := 212) (L' := [(2, .null), (1, zz (decide (ownN T))), (0, .ref 13)]) (S' := [.ref 13]) dm_X7_read_211 rfl rfl rfl rfl ?_
            refine me3 (pc' := 215) (S' := [ii 2]) dm_X7_read_212 (g_get (v := ii 2) (hl_set (hl_lt k_13)) rfl rfl (by decide)) rfl rfl rfl ?_
            refine me0 (pc' := 216) (S' := [ii 2, ii 2]) dm_X7_read_215 rfl rfl rfl rfl ?_
            refine me_2f (pc' := 219) dm_X7_read_216 rfl (by decide) rfl ?_
            refine me1 (pc' := 220) (L' := [(2, .null), (1, zz (decide (ownN T))), (0, .ref 13)]) (S' := [.ref 13]) dm_X7_read_219 rfl rfl rfl rfl ?_
            refine me0 (pc' := 222) (S' := [ii 125, .ref 13]) dm_X7_read_220 rfl rfl rfl rfl ?_
            by_cases hmk : isMk T j_e 125
            · have hm125 := hmk
              refine x_cv (pc' := 225) (rest := []) dm_X7_read_222 rfl (g_inv (As := [ii 125]) (S := []) (hl_set (hl_lt k_13)) rfl rfl rfl (by decide)) rfl rfl rfl (d_skipT (i := j_e) (by omega) hK (TT_set (by omega) kT) (hl_set (hl_lt k_13)) (by omega) (by omega) hmk (by rw [List.set_set])) ?_
              rintro _ _ ⟨rfl, rfl⟩
              refine me_1t (pc' := 230) dm_X7_read_225 rfl (by decide) ?_
              have c8j := cS_r hK (j_e + 1)
              have hjlt := TOKS_lt hK (i := j_e) (by have := hm125.1; omega)
              refine me1 (pc' := 231) (L' := [(2, .null), (1, zz (decide (ownN T))), (0, .ref 13)]) (S' := [.ref 13]) dm_X7_read_230 rfl rfl rfl rfl ?_
              refine me3 (pc' := 234) (S' := [.ref 9]) dm_X7_read_231 (g_get (v := .ref 9) (hl_set (hl_lt k_13)) rfl rfl (by decide)) rfl rfl rfl ?_
              refine me1 (pc' := 235) (L' := [(2, .null), (1, zz (decide (ownN T))), (0, .ref 13)]) (S' := [.ref 13, .ref 9]) dm_X7_read_234 rfl rfl rfl rfl ?_
              refine me3 (pc' := 238) (S' := [ii ((j_e + 1 : Nat) : Int), .ref 9]) dm_X7_read_235 (g_get (v := ii ((j_e + 1 : Nat) : Int)) (hl_set (hl_lt k_13)) rfl rfl (by decide)) rfl rfl rfl ?_
              refine x_cp (pc' := 241) (v := ii ((cS T (j_e + 1) : Nat) : Int)) (rest := []) dm_X7_read_238 rfl (g_inv (As := [ii ((j_e + 1 : Nat) : Int)]) (S := []) (hl_ne (by decide) k_9) rfl rfl rfl (by decide)) rfl rfl rfl (tt_sort (i := j_e + 1) (by omega) hK (TT_set (by omega) kT) (by omega)) ?_
              refine y_1ne (a := ((cS T (j_e + 1) : Nat) : Int)) (t := 254) (pc' := 244) dm_X7_read_241 rfl rfl (by omega) (fun hb11 => ?_) (fun hb11 => ?_)
              · have hnz : ¬ tqS (T (j_e + 1)) = 0 := by have := (cS_7 T (j_e + 1)).2.2.2.2.2.2.2; omega
                refine me1 (pc' := 255) (L' := [(2, .null), (1, zz (decide (ownN T))), (0, .ref 13)]) (S' := [.ref 13]) dm_X7_read_254 rfl rfl rfl rfl ?_
                refine me1 (pc' := 256) (L' := [(2, .null), (1, zz (decide (ownN T))), (0, .ref 13)]) (S' := [.ref 13, .ref 13]) dm_X7_read_255 rfl rfl rfl rfl ?_
                refine x_cv (pc' := 259) (rest := [.ref 13]) dm_X7_read_256 rfl (g_inv (As := []) (S := [.ref 13]) (hl_set (hl_lt k_13)) rfl rfl rfl (by decide)) rfl rfl rfl (d_fail (i := j_e + 1) (by omega) hK (TT_set (by omega) kT) (hl_set (hl_lt k_13)) (by omega) (by rw [List.set_set])) ?_
                rintro _ _ ⟨rfl, rfl⟩
                refine me3 (pc' := 262) (S' := []) (h1 := (k).set 13 (cO 7 [.ref 9, ii ((j_e + 1 : Nat) : Int), ii (tqP (T (j_e + 1)) : Int), ii 2, .long (Int64.ofInt (tqD (T 0))), .null, ktl])) dm_X7_read_259 (g_put (fs' := [.ref 9, ii ((j_e + 1 : Nat) : Int), ii (tqP (T (j_e + 1)) : Int), ii 2, .long (Int64.ofInt (tqD (T 0))), .null, ktl]) (hl_set (hl_lt k_13)) rfl (by rw [List.set_set]) rfl (by simp) rfl (by decide) (fun z => by cases z) (by decide)) rfl rfl rfl ?_
                refine me1 (pc' := 263) (L' := [(2, .null), (1, zz (decide (ownN T))), (0, .ref 13)]) (S' := [.ref 13]) dm_X7_read_262 rfl rfl rfl rfl ?_
                refine me3 (pc' := 266) (S' := [.null]) dm_X7_read_263 (g_get (v := .null) (hl_set (hl_lt k_13)) rfl rfl (by decide)) rfl rfl rfl ?_
                refine me2 (pc' := 273) (S' := []) dm_X7_read_266 rfl rfl rfl ?_
                refine me0 (pc' := 274) (S' := [ii 0]) dm_X7_read_273 rfl rfl rfl rfl ?_
                refine y_ret (r := some (ii 0)) dm_X7_read_274 rfl rfl rfl ?_
                exact ⟨_, rfl, RL_e hlz (liR_x (liA_2 hnw hls) ((liX_v2 hls e hm125).trans (liE_1 hnz))) (hl_set (hl_lt k_13)) (rdF_set (Or.inl rfl) (rdF_tr g2F kF)) (by simp only [List.length_set]; omega) (by rw [sl_rd k_13]; omega)⟩
              · refine me1 (pc' := 245) (L' := [(2, .null), (1, zz (decide (ownN T))), (0, .ref 13)]) (S' := [.ref 13]) dm_X7_read_244 rfl rfl rfl rfl ?_
                refine me3 (pc' := 248) (S' := [.ref 9]) dm_X7_read_245 (g_get (v := .ref 9) (hl_set (hl_lt k_13)) rfl rfl (by decide)) rfl rfl rfl ?_
                refine x_cp (pc' := 251) (v := zz (decide (tqS (T mk) = 0))) (rest := []) dm_X7_read_248 rfl (g_inv (As := []) (S := []) (hl_ne (by decide) k_9) rfl rfl rfl (by decide)) rfl rfl rfl (tt_whole (i := 0) (by omega) hK (TT_set (by omega) kT)) ?_
                refine y_zne (c := decide (tqS (T mk) = 0)) (t := 262) (pc' := 254) dm_X7_read_251 rfl rfl (fun hb12 => ?_) (fun hb12 => ?_)
                · replace hb12 := dT hb12
                  have hzm := hb12
                  have hjmk : (j_e + 1) = mk := Classical.byContradiction fun z => by have := hK.2.2.1 (j_e + 1) (by omega); have := (cS_7 T (j_e + 1)).2.2.2.2.2.2.2; omega
                  have hz0 : tqS (T (j_e + 1)) = 0 := by rw [hjmk]; exact hzm
                  refine me1 (pc' := 263) (L' := [(2, .null), (1, zz (decide (ownN T))), (0, .ref 13)]) (S' := [.ref 13]) dm_X7_read_262 rfl rfl rfl rfl ?_
                  refine me3 (pc' := 266) (S' := [.ref kop]) dm_X7_read_263 (g_get (v := .ref kop) (hl_set (hl_lt k_13)) rfl rfl (by decide)) rfl rfl rfl ?_
                  refine me2 (pc' := 269) (S' := []) dm_X7_read_266 rfl rfl rfl ?_
                  refine me0 (pc' := 270) (S' := [ii 1]) dm_X7_read_269 rfl rfl rfl rfl ?_
                  refine me2 (pc' := 274) (S' := [ii 1]) dm_X7_read_270 rfl rfl rfl ?_
                  refine y_ret (r := some (ii 1)) dm_X7_read_274 rfl rfl rfl ?_
                  exact ⟨_, rfl, RL_v hlz (liR_v (liA_2 hnw hls) ((liX_v2 hls e hm125).trans (liE_0 hz0))) (hl_set (hl_lt k_13)) (rdF_set (Or.inl rfl) (rdF_tr g2F kF)) (by simp only [List.length_set]; omega) (by rw [sl_rd k_13]; omega) ⟨by omega, by omega, by simp only [List.length_set]; omega⟩ (cL_n (o := 1) (by omega) (by rw [hls]; rfl) (cR_k (kp_rd (A := A) (g := g2) hA hl (by omega) (rdF_set (Or.inl rfl) (rdF_rf k 13)) (Or.inl rfl)) _ _ _ _ _ _ _ _ kC))⟩
                · replace hb12 := dF hb12
                  have hnzm := hb12
                  have hjmk : (j_e + 1) = mk := Classical.byContradiction fun z => by have := hK.2.2.1 (j_e + 1) (by omega); have := (cS_7 T (j_e + 1)).2.2.2.2.2.2.2; omega
                  have hnz : ¬ tqS (T (j_e + 1)) = 0 := by rw [hjmk]; exact hnzm
                  refine me1 (pc' := 255) (L' := [(2, .null), (1, zz (decide (ownN T))), (0, .ref 13)]) (S' := [.ref 13]) dm_X7_read_254 rfl rfl rfl rfl ?_
                  refine me1 (pc' := 256) (L' := [(2, .null), (1, zz (decide (ownN T))), (0, .ref 13)]) (S' := [.ref 13, .ref 13]) dm_X7_read_255 rfl rfl rfl rfl ?_
                  refine x_cv (pc' := 259) (rest := [.ref 13]) dm_X7_read_256 rfl (g_inv (As := []) (S := [.ref 13]) (hl_set (hl_lt k_13)) rfl rfl rfl (by decide)) rfl rfl rfl (d_fail (i := j_e + 1) (by omega) hK (TT_set (by omega) kT) (hl_set (hl_lt k_13)) (by omega) (by rw [List.set_set])) ?_
                  rintro _ _ ⟨rfl, rfl⟩
                  refine me3 (pc' := 262) (S' := []) (h1 := (k).set 13 (cO 7 [.ref 9, ii ((j_e + 1 : Nat) : Int), ii (tqP (T (j_e + 1)) : Int), ii 2, .long (Int64.ofInt (tqD (T 0))), .null, ktl])) dm_X7_read_259 (g_put (fs' := [.ref 9, ii ((j_e + 1 : Nat) : Int), ii (tqP (T (j_e + 1)) : Int), ii 2, .long (Int64.ofInt (tqD (T 0))), .null, ktl]) (hl_set (hl_lt k_13)) rfl (by rw [List.set_set]) rfl (by simp) rfl (by decide) (fun z => by cases z) (by decide)) rfl rfl rfl ?_
                  refine me1 (pc' := 263) (L' := [(2, .null), (1, zz (decide (ownN T))), (0, .ref 13)]) (S' := [.ref 13]) dm_X7_read_262 rfl rfl rfl rfl ?_
                  refine me3 (pc' := 266) (S' := [.null]) dm_X7_read_263 (g_get (v := .null) (hl_set (hl_lt k_13)) rfl rfl (by decide)) rfl rfl rfl ?_
                  refine me2 (pc' := 273) (S' := []) dm_X7_read_266 rfl rfl rfl ?_
                  refine me0 (pc' := 274) (S' := [ii 0]) dm_X7_read_273 rfl rfl rfl rfl ?_
                  refine y_ret (r := some (ii 0)) dm_X7_read_274 rfl rfl rfl ?_
                  exact ⟨_, rfl, RL_e hlz (liR_x (liA_2 hnw hls) ((liX_v2 hls e hm125).trans (liE_1 hnz))) (hl_set (hl_lt k_13)) (rdF_set (Or.inl rfl) (rdF_tr g2F kF)) (by simp only [List.length_set]; omega) (by rw [sl_rd k_13]; omega)⟩
            · have hm125 := hmk
              refine x_cv (pc' := 225) (rest := []) dm_X7_read_222 rfl (g_inv (As := [ii 125]) (S := []) (hl_set (hl_lt k_13)) rfl rfl rfl (by decide)) rfl rfl rfl (d_skipF (i := j_e) (by omega) hK (TT_set (by omega) kT) (hl_set (hl_lt k_13)) (by omega) (by omega) hmk (by rw [List.set_set])) ?_
              rintro _ _ ⟨rfl, rfl⟩
              refine me_1f (pc' := 228) dm_X7_read_225 rfl (by decide) rfl ?_
              refine me0 (pc' := 229) (S' := [ii 0]) dm_X7_read_228 rfl rfl rfl rfl ?_
              refine y_ret (r := some (ii 0)) dm_X7_read_229 rfl rfl rfl ?_
              exact ⟨_, rfl, RL_e hlz (liR_x (liA_2 hnw hls) (liX_x2 hls e hm125)) (hl_set (hl_lt k_13)) (rdF_set (Or.inl rfl) (rdF_tr g2F kF)) (by simp only [List.length_set]; omega) (by rw [sl_rd k_13]; omega)⟩
      refine me3 (pc' := 44) (S' := [.long (Int64.ofInt (tqD (T 0)))]) dm_X7_read_41 (g_get (v := .long (Int64.ofInt (tqD (T 0)))) (hl_set (hl_lt h13)) rfl rfl (by decide)) rfl rfl rfl ?_
      refine me3 (pc' := 47) (S' := [.long (Int64.ofInt 24), .long (Int64.ofInt (tqD (T 0)))]) dm_X7_read_44 rfl rfl rfl rfl ?_
      refine y_leq (x := Int64.ofInt (tqD (T 0))) (y := Int64.ofInt 24) (t := 62) (pc1 := 48) (pc' := 51) dm_X7_read_47 rfl dm_X7_read_48 rfl rfl (fun hb13 => ?_) (fun hb13 => ?_)
      · have hb13i := congrArg Int64.toInt hb13
        rw [e64, e24] at hb13i
        refine me0 (pc' := 63) (S' := [ii 1]) dm_X7_read_62 rfl rfl rfl rfl ?_
        refine me2 (pc' := 67) (S' := [ii 1]) dm_X7_read_63 rfl rfl rfl ?_
        refine pg_st (S' := [zz (decide (ownN T))]) (congrArg (fun z => z :: []) (zt (by omega))) ?_
        refine me1 (pc' := 68) (L' := [(1, zz (decide (ownN T))), (0, .ref 13)]) (S' := []) dm_X7_read_67 rfl rfl rfl rfl ?_
        exact pg_sub (L := [(1, zz (decide (ownN T))), (0, .ref 13)]) rfl rfl rfl jn68
      · have hb13i : ¬ (Int64.ofInt (tqD (T 0))).toInt = (Int64.ofInt 24).toInt := fun z => hb13 (Int64.toInt_inj.mp z)
        rw [e64, e24] at hb13i
        refine me1 (pc' := 52) (L' := [(0, .ref 13)]) (S' := [.ref 13]) dm_X7_read_51 rfl rfl rfl rfl ?_
        refine me3 (pc' := 55) (S' := [.long (Int64.ofInt (tqD (T 0)))]) dm_X7_read_52 (g_get (v := .long (Int64.ofInt (tqD (T 0)))) (hl_set (hl_lt h13)) rfl rfl (by decide)) rfl rfl rfl ?_
        refine me3 (pc' := 58) (S' := [.long (Int64.ofInt 25), .long (Int64.ofInt (tqD (T 0)))]) dm_X7_read_55 rfl rfl rfl rfl ?_
        refine y_lne (x := Int64.ofInt (tqD (T 0))) (y := Int64.ofInt 25) (t := 66) (pc1 := 59) (pc' := 62) dm_X7_read_58 rfl dm_X7_read_59 rfl rfl (fun hb14 => ?_) (fun hb14 => ?_)
        · have hb14i : ¬ (Int64.ofInt (tqD (T 0))).toInt = (Int64.ofInt 25).toInt := fun z => hb14 (Int64.toInt_inj.mp z)
          rw [e64, e25] at hb14i
          refine me0 (pc' := 67) (S' := [ii 0]) dm_X7_read_66 rfl rfl rfl rfl ?_
          refine pg_st (S' := [zz (decide (ownN T))]) (congrArg (fun z => z :: []) (zf (by omega))) ?_
          refine me1 (pc' := 68) (L' := [(1, zz (decide (ownN T))), (0, .ref 13)]) (S' := []) dm_X7_read_67 rfl rfl rfl rfl ?_
          exact pg_sub (L := [(1, zz (decide (ownN T))), (0, .ref 13)]) rfl rfl rfl jn68
        · have hb14i := congrArg Int64.toInt hb14
          rw [e64, e25] at hb14i
          refine me0 (pc' := 63) (S' := [ii 1]) dm_X7_read_62 rfl rfl rfl rfl ?_
          refine me2 (pc' := 67) (S' := [ii 1]) dm_X7_read_63 rfl rfl rfl ?_
          refine pg_st (S' := [zz (decide (ownN T))]) (congrArg (fun z => z :: []) (zt (by omega))) ?_
          refine me1 (pc' := 68) (L' := [(1, zz (decide (ownN T))), (0, .ref 13)]) (S' := []) dm_X7_read_67 rfl rfl rfl rfl ?_
          exact pg_sub (L := [(1, zz (decide (ownN T))), (0, .ref 13)]) rfl rfl rfl jn68
    · have hlz : ((liS T : Nat) : Int) = 3 := by rw [hls]; rfl
      refine pg_cast (h2 := (h).set 13 (cO 7 [.ref 9, ii ((0 : Nat) : Int), ii wr, ii 3, .long (Int64.ofInt (tqD (T 0))), st, tl])) (by rw [hlz]) ?_
      have h2m := liS_3 hls
      have hmk3 := TOKS_lt hK (i := 2) (by have := h2m.1; omega)
      have jn68 : pgE xt (d - 1) 7 3 false (Option.some Jvm.ClassFile.FieldType.boolean) (mj_dec prog_9_method_6_code) 68 [(1, zz (decide (ownN T))), (0, .ref 13)] [] ((h).set 13 (cO 7 [.ref 9, ii ((0 : Nat) : Int), ii wr, ii 3, .long (Int64.ofInt (tqD (T 0))), st, tl])) (fun r h' => ∃ x, r = some x ∧ RL A h T ln x h') := by
        refine me1 (pc' := 69) (L' := [(1, zz (decide (ownN T))), (0, .ref 13)]) (S' := [.ref 13]) dm_X7_read_68 rfl rfl rfl rfl ?_
        refine me3 (pc' := 72) (S' := [ii 3]) dm_X7_read_69 (g_get (v := ii 3) (hl_set (hl_lt h13)) rfl rfl (by decide)) rfl rfl rfl ?_
        refine me_1f (pc' := 75) dm_X7_read_72 rfl (by decide) rfl ?_
        refine me1 (pc' := 76) (L' := [(1, zz (decide (ownN T))), (0, .ref 13)]) (S' := [zz (decide (ownN T))]) dm_X7_read_75 rfl rfl rfl rfl ?_
        refine y_zne (c := decide (ownN T)) (t := 99) (pc' := 79) dm_X7_read_76 rfl rfl (fun hb15 => ?_) (fun hb15 => ?_)
        · replace hb15 := dT hb15
          have hown := hb15
          refine me1 (pc' := 100) (L' := [(1, zz (decide (ownN T))), (0, .ref 13)]) (S' := [.ref 13]) dm_X7_read_99 rfl rfl rfl rfl ?_
          refine me1 (pc' := 101) (L' := [(1, zz (decide (ownN T))), (0, .ref 13)]) (S' := [.ref 13, .ref 13]) dm_X7_read_100 rfl rfl rfl rfl ?_
          refine x_cv (pc' := 104) (rest := [.ref 13]) dm_X7_read_101 rfl (g_inv (As := []) (S := [.ref 13]) (hl_set (hl_lt h13)) rfl rfl rfl (by decide)) rfl rfl rfl (d_fail (i := 0) (by omega) hK (TT_set (by omega) hT) (hl_set (hl_lt h13)) (by omega) (by rw [List.set_set])) ?_
          rintro _ _ ⟨rfl, rfl⟩
          refine me3 (pc' := 107) (S' := []) (h1 := (h).set 13 (cO 7 [.ref 9, ii ((0 : Nat) : Int), ii (tqP (T 0) : Int), ii 3, .long (Int64.ofInt (tqD (T 0))), .null, tl])) dm_X7_read_104 (g_put (fs' := [.ref 9, ii ((0 : Nat) : Int), ii (tqP (T 0) : Int), ii 3, .long (Int64.ofInt (tqD (T 0))), .null, tl]) (hl_set (hl_lt h13)) rfl (by rw [List.set_set]) rfl (by simp) rfl (by decide) (fun z => by cases z) (by decide)) rfl rfl rfl ?_
          refine me0 (pc' := 108) (S' := [ii 0]) dm_X7_read_107 rfl rfl rfl rfl ?_
          refine y_ret (r := some (ii 0)) dm_X7_read_108 rfl rfl rfl ?_
          exact ⟨_, rfl, RL_e hlz (liR_a (liA_w ⟨by omega, Or.inl hown⟩)) (hl_set (hl_lt h13)) (rdF_set (Or.inl rfl) (rdF_rf h 13)) (by simp only [List.length_set]; omega) (by rw [sl_rd h13]; omega)⟩
        · replace hb15 := dF hb15
          have hnow := hb15
          refine me1 (pc' := 80) (L' := [(1, zz (decide (ownN T))), (0, .ref 13)]) (S' := [.ref 13]) dm_X7_read_79 rfl rfl rfl rfl ?_
          refine me3 (pc' := 83) (S' := [ii 3]) dm_X7_read_80 (g_get (v := ii 3) (hl_set (hl_lt h13)) rfl rfl (by decide)) rfl rfl rfl ?_
          refine me0 (pc' := 84) (S' := [ii 3, ii 3]) dm_X7_read_83 rfl rfl rfl rfl ?_
          refine me_2f (pc' := 87) dm_X7_read_84 rfl (by decide) rfl ?_
          refine me1 (pc' := 88) (L' := [(1, zz (decide (ownN T))), (0, .ref 13)]) (S' := [.ref 13]) dm_X7_read_87 rfl rfl rfl rfl ?_
          refine me3 (pc' := 91) (S' := [.ref 9]) dm_X7_read_88 (g_get (v := .ref 9) (hl_set (hl_lt h13)) rfl rfl (by decide)) rfl rfl rfl ?_
          refine me0 (pc' := 92) (S' := [ii 0, .ref 9]) dm_X7_read_91 rfl rfl rfl rfl ?_
          have c80 := cS_r hK 0
          refine pg_st (S' := [ii ((0 : Nat) : Int), .ref 9]) (congrArg (fun z => ii z :: [.ref 9]) (rfl)) ?_
          refine x_cp (pc' := 95) (v := ii ((cS T 0 : Nat) : Int)) (rest := []) dm_X7_read_92 rfl (g_inv (As := [ii ((0 : Nat) : Int)]) (S := []) (hl_ne (by decide) h9) rfl rfl rfl (by decide)) rfl rfl rfl (tt_sort (i := 0) (by omega) hK (TT_set (by omega) hT) (by omega)) ?_
          refine me0 (pc' := 96) (S' := [ii 4, ii ((cS T 0 : Nat) : Int)]) dm_X7_read_95 rfl rfl rfl rfl ?_
          refine y_2ne (a := ((cS T 0 : Nat) : Int)) (b := 4) (t := 109) (pc' := 99) dm_X7_read_96 rfl rfl (by omega) (fun hb16 => ?_) (fun hb16 => ?_)
          · have c4 := (cS_7 T 0).2.2.1
            have hn4 : ¬ tqS (T 0) = 4 := by omega
            have hnw : ¬ liW T := fun z => z.2.elim hnow (fun y => hn4 y.2)
            refine me0 (pc' := 110) (S' := [.null]) dm_X7_read_109 rfl rfl rfl rfl ?_
            refine me1 (pc' := 111) (L' := [(2, .null), (1, zz (decide (ownN T))), (0, .ref 13)]) (S' := []) dm_X7_read_110 rfl rfl rfl rfl ?_
            refine me1 (pc' := 112) (L' := [(2, .null), (1, zz (decide (ownN T))), (0, .ref 13)]) (S' := [.ref 13]) dm_X7_read_111 rfl rfl rfl rfl ?_
            refine me3 (pc' := 115) (S' := [ii 3]) dm_X7_read_112 (g_get (v := ii 3) (hl_set (hl_lt h13)) rfl rfl (by decide)) rfl rfl rfl ?_
            refine me0 (pc' := 116) (S' := [ii 3, ii 3]) dm_X7_read_115 rfl rfl rfl rfl ?_
            refine me_2f (pc' := 119) dm_X7_read_116 rfl (by decide) rfl ?_
            refine me1 (pc' := 120) (L' := [(2, .null), (1, zz (decide (ownN T))), (0, .ref 13)]) (S' := [.ref 13]) dm_X7_read_119 rfl rfl rfl rfl ?_
            refine me0 (pc' := 121) (S' := [ii 3, .ref 13]) dm_X7_read_120 rfl rfl rfl rfl ?_
            refine pg_st (S' := [ii ((3 : Nat) : Int), .ref 13]) (congrArg (fun z => ii z :: [.ref 13]) (rfl)) ?_
            refine me3 (pc' := 124) (S' := []) (h1 := (h).set 13 (cO 7 [.ref 9, ii ((3 : Nat) : Int), ii wr, ii 3, .long (Int64.ofInt (tqD (T 0))), st, tl])) dm_X7_read_121 (g_put (fs' := [.ref 9, ii ((3 : Nat) : Int), ii wr, ii 3, .long (Int64.ofInt (tqD (T 0))), st, tl]) (hl_set (hl_lt h13)) rfl (by rw [List.set_set]) rfl (by simp) rfl (by decide) (fun z => by cases z) (by decide)) rfl rfl rfl ?_
            refine me1 (pc' := 125) (L' := [(2, .null), (1, zz (decide (ownN T))), (0, .ref 13)]) (S' := [.ref 13]) dm_X7_read_124 rfl rfl rfl rfl ?_
            refine me1 (pc' := 126) (L' := [(2, .null), (1, zz (decide (ownN T))), (0, .ref 13)]) (S' := [.ref 13, .ref 13]) dm_X7_read_125 rfl rfl rfl rfl ?_
            obtain ⟨g0, g0e⟩ : ∃ g0, g0 = ((h).set 13 (cO 7 [.ref 9, ii ((3 : Nat) : Int), ii wr, ii 3, .long (Int64.ofInt (tqD (T 0))), st, tl])) := ⟨_, rfl⟩
            have g0_13 : g0[13]? = some (cO 7 [.ref 9, ii ((3 : Nat) : Int), ii wr, ii 3, .long (Int64.ofInt (tqD (T 0))), st, tl]) := by rw [g0e]; exact (hl_set (hl_lt h13))
            have g0_9 : g0[9]? = some (cO 8 [.ref 10, .ref 11, .ref 12, ii ((mk + 1 : Nat) : Int), ii le_, .ref 3, .ref 4, ii (ln : Int), zz gd]) := by rw [g0e]; exact (hl_ne (by decide) h9)
            have g0T : TT g0 T mk ln := by rw [g0e]; exact (TT_set (by omega) hT)
            refine pg_cast (h2 := g0) g0e.symm ?_
            have g0l : g0.length = h.length := by rw [g0e]; simp
            have g0s : mj_sl g0 = mj_sl h := by rw [g0e]; exact sl_rd h13
            have g0F : rdF h g0 13 := by rw [g0e]; exact rdF_set (Or.inl rfl) (rdF_rf h 13)
            refine x_cv (pc' := 129) (rest := [.ref 13]) dm_X7_read_126 rfl (g_inv (As := []) (S := [.ref 13]) g0_13 rfl rfl rfl (by decide)) rfl rfl rfl (d_amendment (by omega) hK g0T g0_13 (by omega) (by omega)) ?_
            rintro _ _ ⟨rfl, rfl⟩
            refine me0 (pc' := 130) (S' := [ii 1, .ref g0.length, .ref 13]) dm_X7_read_129 rfl rfl rfl rfl ?_
            obtain ⟨g1, g1e⟩ : ∃ g1, g1 = ((g0 ++ [cO 4 [ii 2, ii (tqP (T 0) : Int), ii 0, .long (Int64.ofInt (tqD (T 0))), ii 0, ii 0, ii 0, .null, .ref (g0.length + 1), .null]]) ++ [cO 4 [ii 7, ii (tqP (T 1) : Int), ii 0, .long (Int64.ofInt 0), ii 0, ii 0, ii 0, .null, .null, .null]]) := ⟨_, rfl⟩
            have g1_13 : g1[13]? = some (cO 7 [.ref 9, ii ((3 : Nat) : Int), ii wr, ii 3, .long (Int64.ofInt (tqD (T 0))), st, tl]) := by rw [g1e]; exact (hl_app (hl_app g0_13))
            have g1_9 : g1[9]? = some (cO 8 [.ref 10, .ref 11, .ref 12, ii ((mk + 1 : Nat) : Int), ii le_, .ref 3, .ref 4, ii (ln : Int), zz gd]) := by rw [g1e]; exact (hl_app (hl_app g0_9))
            have g1_k0 : g1[g0.length]? = some (cO 4 [ii 2, ii (tqP (T 0) : Int), ii 0, .long (Int64.ofInt (tqD (T 0))), ii 0, ii 0, ii 0, .null, .ref (g0.length + 1), .null]) := by rw [g1e]; exact (hl_app hl_new)
            have g1_k1 : g1[g0.length + 1]? = some (cO 4 [ii 7, ii (tqP (T 1) : Int), ii 0, .long (Int64.ofInt 0), ii 0, ii 0, ii 0, .null, .null, .null]) := by rw [g1e]; exact (hl_newa (by simp))
            have g1T : TT g1 T mk ln := by rw [g1e]; exact (TT_app (by simp; omega) (TT_app (by omega) g0T))
            refine pg_cast (h2 := g1) g1e.symm ?_
            have g1l : g1.length = h.length + 2 := by rw [g1e]; simp; omega
            have g1s : mj_sl g1 = mj_sl h + 20 := by rw [g1e, sl_app, sl_app, sl_op, sl_op]; omega
            have g1F : rdF h g1 13 := by rw [g1e]; exact rdF_app (rdF_app g0F)
            refine pg_st (S' := [ii ((1 : Nat) : Int), .ref g0.length, .ref 13]) rfl ?_
            rcases e1 : pR T fuR 0 1 3 with p_e1 | j_e1
            · refine x_cv (pc' := 133) (rest := []) dm_X7_read_130 rfl (g_inv (As := [.ref g0.length, ii ((1 : Nat) : Int)]) (S := []) g1_13 rfl rfl rfl (by decide)) rfl rfl rfl (d_expr hx1 hK fuR _ g1 A 3 1 (some g0.length) wr tl (by omega) (by omega) (okA_len hA (by omega)) g1T g1_13 (by omega) (by omega) (by omega)) ?_
              rintro x1 k1 hx1_
              obtain ⟨k1at, k1tl, rfl, k1_13, k1F, k1L, k1S⟩ := RX_e e1 hx1_
              have k1T : TT k1 T mk ln := rdF_TT k1F (by decide) (by omega) g1T
              have k1l := k1F.1
              have k1_9 : k1[9]? = some (cO 8 [.ref 10, .ref 11, .ref 12, ii ((mk + 1 : Nat) : Int), ii le_, .ref 3, .ref 4, ii (ln : Int), zz gd]) := (k1F.2 9 (by omega) (by omega) (by omega)).trans g1_9
              have k1_k0 : k1[g0.length]? = some (cO 4 [ii 2, ii (tqP (T 0) : Int), ii 0, .long (Int64.ofInt (tqD (T 0))), ii 0, ii 0, ii 0, .null, .ref (g0.length + 1), .null]) := (k1F.2 g0.length (by omega) (by omega) (by omega)).trans g1_k0
              have k1_k1 : k1[g0.length + 1]? = some (cO 4 [ii 7, ii (tqP (T 1) : Int), ii 0, .long (Int64.ofInt 0), ii 0, ii 0, ii 0, .null, .null, .null]) := (k1F.2 (g0.length + 1) (by omega) (by omega) (by omega)).trans g1_k1
              have hc0 : ceM 0 = 1 := rfl
              refine me1 (pc' := 134) (L' := [(2, .null), (1, zz (decide (ownN T))), (0, .ref 13)]) (S' := []) dm_X7_read_133 rfl rfl rfl rfl ?_
              refine me1 (pc' := 135) (L' := [(2, .null), (1, zz (decide (ownN T))), (0, .ref 13)]) (S' := [.null]) dm_X7_read_134 rfl rfl rfl rfl ?_
              refine me2 (pc' := 156) (S' := []) dm_X7_read_135 rfl rfl rfl ?_
              refine me0 (pc' := 157) (S' := [ii 0]) dm_X7_read_156 rfl rfl rfl rfl ?_
              refine y_ret (r := some (ii 0)) dm_X7_read_157 rfl rfl rfl ?_
              exact ⟨_, rfl, RL_e hlz (liR_a (liA_e hnw hls e1)) k1_13 (rdF_tr g1F k1F) (by omega) (by omega)⟩
            · refine x_cv (pc' := 133) (rest := []) dm_X7_read_130 rfl (g_inv (As := [.ref g0.length, ii ((1 : Nat) : Int)]) (S := []) g1_13 rfl rfl rfl (by decide)) rfl rfl rfl (d_expr hx1 hK fuR _ g1 A 3 1 (some g0.length) wr tl (by omega) (by omega) (okA_len hA (by omega)) g1T g1_13 (by omega) (by omega) (by omega)) ?_
              rintro x1 k1 hx1_
              obtain ⟨k1op, k1wr, k1tl, rfl, k1_13, k1F, k1O, k1C, k1L, k1S⟩ := RX_v e1 hx1_
              have k1T : TT k1 T mk ln := rdF_TT k1F (by decide) (by omega) g1T
              have k1l := k1F.1
              have k1_9 : k1[9]? = some (cO 8 [.ref 10, .ref 11, .ref 12, ii ((mk + 1 : Nat) : Int), ii le_, .ref 3, .ref 4, ii (ln : Int), zz gd]) := (k1F.2 9 (by omega) (by omega) (by omega)).trans g1_9
              have k1_k0 : k1[g0.length]? = some (cO 4 [ii 2, ii (tqP (T 0) : Int), ii 0, .long (Int64.ofInt (tqD (T 0))), ii 0, ii 0, ii 0, .null, .ref (g0.length + 1), .null]) := (k1F.2 g0.length (by omega) (by omega) (by omega)).trans g1_k0
              have k1_k1 : k1[g0.length + 1]? = some (cO 4 [ii 7, ii (tqP (T 1) : Int), ii 0, .long (Int64.ofInt 0), ii 0, ii 0, ii 0, .null, .null, .null]) := (k1F.2 (g0.length + 1) (by omega) (by omega) (by omega)).trans g1_k1
              have hc0 : ceM 0 = 1 := rfl
              have hj1 := pR_mk hK _ 0 _ _ _ (show 3 ≤ mk by omega) e1
              have hP1 := P_ln hK j_e1
              have hP3 := P_ln hK 3
              refine me1 (pc' := 134) (L' := [(2, .ref k1op), (1, zz (decide (ownN T))), (0, .ref 13)]) (S' := []) dm_X7_read_133 rfl rfl rfl rfl ?_
              refine me1 (pc' := 135) (L' := [(2, .ref k1op), (1, zz (decide (ownN T))), (0, .ref 13)]) (S' := [.ref k1op]) dm_X7_read_134 rfl rfl rfl rfl ?_
              refine me2 (pc' := 138) (S' := []) dm_X7_read_135 rfl rfl rfl ?_
              refine me1 (pc' := 139) (L' := [(2, .ref k1op), (1, zz (decide (ownN T))), (0, .ref 13)]) (S' := [.ref 13]) dm_X7_read_138 rfl rfl rfl rfl ?_
              refine me0 (pc' := 141) (S' := [ii 41, .ref 13]) dm_X7_read_139 rfl rfl rfl rfl ?_
              by_cases hmk : isMk T j_e1 41
              · have hm41 := hmk
                have hj1lt := TOKS_lt hK (i := j_e1) (by have := hmk.1; omega)
                refine x_cv (pc' := 144) (rest := []) dm_X7_read_141 rfl (g_inv (As := [ii 41]) (S := []) k1_13 rfl rfl rfl (by decide)) rfl rfl rfl (d_skipT (i := j_e1) (by omega) hK k1T k1_13 (by omega) (by omega) hmk rfl) ?_
                rintro _ _ ⟨rfl, rfl⟩
                refine me_1f (pc' := 147) dm_X7_read_144 rfl (by decide) rfl ?_
                refine me1 (pc' := 148) (L' := [(2, .ref k1op), (1, zz (decide (ownN T))), (0, .ref 13)]) (S' := [.ref 13]) dm_X7_read_147 rfl rfl rfl rfl ?_
                refine me0 (pc' := 150) (S' := [ii 58, .ref 13]) dm_X7_read_148 rfl rfl rfl rfl ?_
                clear hmk
                by_cases hmk : isMk T (j_e1 + 1) 58
                · have hm58 := hmk
                  refine x_cv (pc' := 153) (rest := []) dm_X7_read_150 rfl (g_inv (As := [ii 58]) (S := []) (hl_set (hl_lt k1_13)) rfl rfl rfl (by decide)) rfl rfl rfl (d_skipT (i := j_e1 + 1) (by omega) hK (TT_set (by omega) k1T) (hl_set (hl_lt k1_13)) (by omega) (by omega) hmk (by rw [List.set_set])) ?_
                  rintro _ _ ⟨rfl, rfl⟩
                  refine me_1t (pc' := 182) dm_X7_read_153 rfl (by decide) ?_
                  refine me1 (pc' := 183) (L' := [(2, .ref k1op), (1, zz (decide (ownN T))), (0, .ref 13)]) (S' := [.ref 13]) dm_X7_read_182 rfl rfl rfl rfl ?_
                  refine me1 (pc' := 184) (L' := [(2, .ref k1op), (1, zz (decide (ownN T))), (0, .ref 13)]) (S' := [.ref 13, .ref 13]) dm_X7_read_183 rfl rfl rfl rfl ?_
                  refine me1 (pc' := 185) (L' := [(2, .ref k1op), (1, zz (decide (ownN T))), (0, .ref 13)]) (S' := [.ref k1op, .ref 13, .ref 13]) dm_X7_read_184 rfl rfl rfl rfl ?_
                  refine me1 (pc' := 186) (L' := [(2, .ref k1op), (1, zz (decide (ownN T))), (0, .ref 13)]) (S' := [.ref 13, .ref k1op, .ref 13, .ref 13]) dm_X7_read_185 rfl rfl rfl rfl ?_
                  refine me3 (pc' := 189) (S' := [ii 3, .ref k1op, .ref 13, .ref 13]) dm_X7_read_186 (g_get (v := ii 3) (hl_set (hl_lt k1_13)) rfl rfl (by decide)) rfl rfl rfl ?_
                  refine me0 (pc' := 190) (S' := [ii 2, ii 3, .ref k1op, .ref 13, .ref 13]) dm_X7_read_189 rfl rfl rfl rfl ?_
                  refine me_2t (pc' := 197) dm_X7_read_190 rfl (by decide) ?_
                  refine me0 (pc' := 198) (S' := [ii 0, .ref k1op, .ref 13, .ref 13]) dm_X7_read_197 rfl rfl rfl rfl ?_
                  obtain ⟨g2, g2e⟩ : ∃ g2, g2 = ((k1).set 13 (cO 7 [.ref 9, ii ((j_e1 + 1 + 1 : Nat) : Int), ii k1wr, ii 3, .long (Int64.ofInt (tqD (T 0))), st, k1tl])) := ⟨_, rfl⟩
                  have g2_13 : g2[13]? = some (cO 7 [.ref 9, ii ((j_e1 + 1 + 1 : Nat) : Int), ii k1wr, ii 3, .long (Int64.ofInt (tqD (T 0))), st, k1tl]) := by rw [g2e]; exact (hl_set (hl_lt k1_13))
                  have g2_9 : g2[9]? = some (cO 8 [.ref 10, .ref 11, .ref 12, ii ((mk + 1 : Nat) : Int), ii le_, .ref 3, .ref 4, ii (ln : Int), zz gd]) := by rw [g2e]; exact (hl_ne (by decide) k1_9)
                  have g2_k0 : g2[g0.length]? = some (cO 4 [ii 2, ii (tqP (T 0) : Int), ii 0, .long (Int64.ofInt (tqD (T 0))), ii 0, ii 0, ii 0, .null, .ref (g0.length + 1), .null]) := by rw [g2e]; exact (hl_ne (by omega) k1_k0)
                  have g2_k1 : g2[g0.length + 1]? = some (cO 4 [ii 7, ii (tqP (T 1) : Int), ii 0, .long (Int64.ofInt 0), ii 0, ii 0, ii 0, .null, .null, .null]) := by rw [g2e]; exact (hl_ne (by omega) k1_k1)
                  have g2T : TT g2 T mk ln := by rw [g2e]; exact (TT_set (by omega) k1T)
                  refine pg_cast (h2 := g2) g2e.symm ?_
                  have g2l : g2.length = k1.length := by rw [g2e]; simp
                  have g2s : mj_sl g2 = mj_sl k1 := by rw [g2e]; exact sl_rd k1_13
                  have g2F1 : rdF k1 g2 13 := by rw [g2e]; exact rdF_set (Or.inl rfl) (rdF_rf k1 13)
                  have g2F : rdF h g2 13 := rdF_tr (rdF_tr g1F k1F) g2F1
                  have hjm : j_e1 + 1 < mk := TOKS_lt hK (i := j_e1 + 1) (by have := hm58.1; omega)
                  have hPj1 := P_le hK (i := j_e1) (j := j_e1 + 1 + 1) (by omega) (by omega)
                  refine pg_st (S' := [ii ((0 : Nat) : Int), .ref k1op, .ref 13, .ref 13]) rfl ?_
                  rcases e : pR T fuR 0 0 (j_e1 + 1 + 1) with p_e | j_e
                  · refine x_cv (pc' := 201) (rest := [.ref 13]) dm_X7_read_198 rfl (g_inv (As := [.ref k1op, ii ((0 : Nat) : Int)]) (S := [.ref 13]) g2_13 rfl rfl rfl (by decide)) rfl rfl rfl (d_expr hx1 hK fuR _ g2 A (j_e1 + 1 + 1) 0 (some k1op) k1wr k1tl (by omega) (by omega) (okA_len hA (by omega)) g2T g2_13 (by omega) (by omega) (by omega)) ?_
                    rintro x2 k hx2_
                    obtain ⟨kat, ktl, rfl, k_13, kF, kL, kS⟩ := RX_e e hx2_
                    have kT : TT k T mk ln := rdF_TT kF (by decide) (by omega) g2T
                    have kl := kF.1
                    have k_9 : k[9]? = some (cO 8 [.ref 10, .ref 11, .ref 12, ii ((mk + 1 : Nat) : Int), ii le_, .ref 3, .ref 4, ii (ln : Int), zz gd]) := (kF.2 9 (by omega) (by omega) (by omega)).trans g2_9
                    have k_k0 : k[g0.length]? = some (cO 4 [ii 2, ii (tqP (T 0) : Int), ii 0, .long (Int64.ofInt (tqD (T 0))), ii 0, ii 0, ii 0, .null, .ref (g0.length + 1), .null]) := (kF.2 g0.length (by omega) (by omega) (by omega)).trans g2_k0
                    have k_k1 : k[g0.length + 1]? = some (cO 4 [ii 7, ii (tqP (T 1) : Int), ii 0, .long (Int64.ofInt 0), ii 0, ii 0, ii 0, .null, .null, .null]) := (kF.2 (g0.length + 1) (by omega) (by omega) (by omega)).trans g2_k1
                    have hc1 : ceM 0 = 1 := rfl
                    have hPa := P_ln hK (j_e1 + 1 + 1)
                    refine me3 (pc' := 204) (S' := []) (h1 := (k).set 13 (cO 7 [.ref 9, ii kat, ii (p_e : Int), ii 3, .long (Int64.ofInt (tqD (T 0))), .null, ktl])) dm_X7_read_201 (g_put (fs' := [.ref 9, ii kat, ii (p_e : Int), ii 3, .long (Int64.ofInt (tqD (T 0))), .null, ktl]) k_13 rfl rfl rfl (by simp) rfl (by decide) (fun z => by cases z) (by decide)) rfl rfl rfl ?_
                    refine me1 (pc' := 205) (L' := [(2, .ref k1op), (1, zz (decide (ownN T))), (0, .ref 13)]) (S' := [.ref 13]) dm_X7_read_204 rfl rfl rfl rfl ?_
                    refine me3 (pc' := 208) (S' := [.null]) dm_X7_read_205 (g_get (v := .null) (hl_set (hl_lt k_13)) rfl rfl (by decide)) rfl rfl rfl ?_
                    refine me2 (pc' := 228) (S' := []) dm_X7_read_208 rfl rfl rfl ?_
                    refine me0 (pc' := 229) (S' := [ii 0]) dm_X7_read_228 rfl rfl rfl rfl ?_
                    refine y_ret (r := some (ii 0)) dm_X7_read_229 rfl rfl rfl ?_
                    exact ⟨_, rfl, RL_e hlz (liR_x (liA_v hnw hls e1 hm41 hm58) (liX_en (by omega) e)) (hl_set (hl_lt k_13)) (rdF_set (Or.inl rfl) (rdF_tr g2F kF)) (by simp only [List.length_set]; omega) (by rw [sl_rd k_13]; omega)⟩
                  · refine x_cv (pc' := 201) (rest := [.ref 13]) dm_X7_read_198 rfl (g_inv (As := [.ref k1op, ii ((0 : Nat) : Int)]) (S := [.ref 13]) g2_13 rfl rfl rfl (by decide)) rfl rfl rfl (d_expr hx1 hK fuR _ g2 A (j_e1 + 1 + 1) 0 (some k1op) k1wr k1tl (by omega) (by omega) (okA_len hA (by omega)) g2T g2_13 (by omega) (by omega) (by omega)) ?_
                    rintro x2 k hx2_
                    obtain ⟨kop, kwr, ktl, rfl, k_13, kF, kO, kC, kL, kS⟩ := RX_v e hx2_
                    have kT : TT k T mk ln := rdF_TT kF (by decide) (by omega) g2T
                    have kl := kF.1
                    have k_9 : k[9]? = some (cO 8 [.ref 10, .ref 11, .ref 12, ii ((mk + 1 : Nat) : Int), ii le_, .ref 3, .ref 4, ii (ln : Int), zz gd]) := (kF.2 9 (by omega) (by omega) (by omega)).trans g2_9
                    have k_k0 : k[g0.length]? = some (cO 4 [ii 2, ii (tqP (T 0) : Int), ii 0, .long (Int64.ofInt (tqD (T 0))), ii 0, ii 0, ii 0, .null, .ref (g0.length + 1), .null]) := (kF.2 g0.length (by omega) (by omega) (by omega)).trans g2_k0
                    have k_k1 : k[g0.length + 1]? = some (cO 4 [ii 7, ii (tqP (T 1) : Int), ii 0, .long (Int64.ofInt 0), ii 0, ii 0, ii 0, .null, .null, .null]) := (kF.2 (g0.length + 1) (by omega) (by omega) (by omega)).trans g2_k1
                    have hc1 : ceM 0 = 1 := rfl
                    have hPa := P_ln hK (j_e1 + 1 + 1)
                    have hj := pR_mk hK _ 0 _ _ _ (show j_e1 + 1 + 1 ≤ mk by omega) e
                    have hPj := P_ln hK j_e
                    refine me3 (pc' := 204) (S' := []) (h1 := (k).set 13 (cO 7 [.ref 9, ii ((j_e : Nat) : Int), ii kwr, ii 3, .long (Int64.ofInt (tqD (T 0))), .ref kop, ktl])) dm_X7_read_201 (g_put (fs' := [.ref 9, ii ((j_e : Nat) : Int), ii kwr, ii 3, .long (Int64.ofInt (tqD (T 0))), .ref kop, ktl]) k_13 rfl rfl rfl (by simp) rfl (by decide) (fun z => by cases z) (by decide)) rfl rfl rfl ?_
                    refine me1 (pc' := 205) (L' := [(2, .ref k1op), (1, zz (decide (ownN T))), (0, .ref 13)]) (S' := [.ref 13]) dm_X7_read_204 rfl rfl rfl rfl ?_
                    refine me3 (pc' := 208) (S' := [.ref kop]) dm_X7_read_205 (g_get (v := .ref kop) (hl_set (hl_lt k_13)) rfl rfl (by decide)) rfl rfl rfl ?_
                    refine me2 (pc' := 211) (S' := []) dm_X7_read_208 rfl rfl rfl ?_
                    refine me1 (pc' := 212) (L' := [(2, .ref k1op), (1, zz (decide (ownN T))), (0, .ref 13)]) (S' := [.ref 13]) dm_X7_read_211 rfl rfl rfl rfl ?_
                    refine me3 (pc' := 215) (S' := [ii 3]) dm_X7_read_212 (g_get (v := ii 3) (hl_set (hl_lt k_13)) rfl rfl (by decide)) rfl rfl rfl ?_
                    refine me0 (pc' := 216) (S' := [ii 2, ii 3]) dm_X7_read_215 rfl rfl rfl rfl ?_
                    refine me_2t (pc' := 230) dm_X7_read_216 rfl (by decide) ?_
                    have c8j := cS_r hK j_e
                    refine me1 (pc' := 231) (L' := [(2, .ref k1op), (1, zz (decide (ownN T))), (0, .ref 13)]) (S' := [.ref 13]) dm_X7_read_230 rfl rfl rfl rfl ?_
                    refine me3 (pc' := 234) (S' := [.ref 9]) dm_X7_read_231 (g_get (v := .ref 9) (hl_set (hl_lt k_13)) rfl rfl (by decide)) rfl rfl rfl ?_
                    refine me1 (pc' := 235) (L' := [(2, .ref k1op), (1, zz (decide (ownN T))), (0, .ref 13)]) (S' := [.ref 13, .ref 9]) dm_X7_read_234 rfl rfl rfl rfl ?_
                    refine me3 (pc' := 238) (S' := [ii ((j_e : Nat) : Int), .ref 9]) dm_X7_read_235 (g_get (v := ii ((j_e : Nat) : Int)) (hl_set (hl_lt k_13)) rfl rfl (by decide)) rfl rfl rfl ?_
                    refine x_cp (pc' := 241) (v := ii ((cS T j_e : Nat) : Int)) (rest := []) dm_X7_read_238 rfl (g_inv (As := [ii ((j_e : Nat) : Int)]) (S := []) (hl_ne (by decide) k_9) rfl rfl rfl (by decide)) rfl rfl rfl (tt_sort (i := j_e) (by omega) hK (TT_set (by omega) kT) (by omega)) ?_
                    refine y_1ne (a := ((cS T j_e : Nat) : Int)) (t := 254) (pc' := 244) dm_X7_read_241 rfl rfl (by omega) (fun hb17 => ?_) (fun hb17 => ?_)
                    · have hnz : ¬ tqS (T j_e) = 0 := by have := (cS_7 T j_e).2.2.2.2.2.2.2; omega
                      refine me1 (pc' := 255) (L' := [(2, .ref k1op), (1, zz (decide (ownN T))), (0, .ref 13)]) (S' := [.ref 13]) dm_X7_read_254 rfl rfl rfl rfl ?_
                      refine me1 (pc' := 256) (L' := [(2, .ref k1op), (1, zz (decide (ownN T))), (0, .ref 13)]) (S' := [.ref 13, .ref 13]) dm_X7_read_255 rfl rfl rfl rfl ?_
                      refine x_cv (pc' := 259) (rest := [.ref 13]) dm_X7_read_256 rfl (g_inv (As := []) (S := [.ref 13]) (hl_set (hl_lt k_13)) rfl rfl rfl (by decide)) rfl rfl rfl (d_fail (i := j_e) (by omega) hK (TT_set (by omega) kT) (hl_set (hl_lt k_13)) (by omega) (by rw [List.set_set])) ?_
                      rintro _ _ ⟨rfl, rfl⟩
                      refine me3 (pc' := 262) (S' := []) (h1 := (k).set 13 (cO 7 [.ref 9, ii ((j_e : Nat) : Int), ii (tqP (T j_e) : Int), ii 3, .long (Int64.ofInt (tqD (T 0))), .null, ktl])) dm_X7_read_259 (g_put (fs' := [.ref 9, ii ((j_e : Nat) : Int), ii (tqP (T j_e) : Int), ii 3, .long (Int64.ofInt (tqD (T 0))), .null, ktl]) (hl_set (hl_lt k_13)) rfl (by rw [List.set_set]) rfl (by simp) rfl (by decide) (fun z => by cases z) (by decide)) rfl rfl rfl ?_
                      refine me1 (pc' := 263) (L' := [(2, .ref k1op), (1, zz (decide (ownN T))), (0, .ref 13)]) (S' := [.ref 13]) dm_X7_read_262 rfl rfl rfl rfl ?_
                      refine me3 (pc' := 266) (S' := [.null]) dm_X7_read_263 (g_get (v := .null) (hl_set (hl_lt k_13)) rfl rfl (by decide)) rfl rfl rfl ?_
                      refine me2 (pc' := 273) (S' := []) dm_X7_read_266 rfl rfl rfl ?_
                      refine me0 (pc' := 274) (S' := [ii 0]) dm_X7_read_273 rfl rfl rfl rfl ?_
                      refine y_ret (r := some (ii 0)) dm_X7_read_274 rfl rfl rfl ?_
                      exact ⟨_, rfl, RL_e hlz (liR_x (liA_v hnw hls e1 hm41 hm58) ((liX_vn (by omega) e).trans (liE_1 hnz))) (hl_set (hl_lt k_13)) (rdF_set (Or.inl rfl) (rdF_tr g2F kF)) (by simp only [List.length_set]; omega) (by rw [sl_rd k_13]; omega)⟩
                    · refine me1 (pc' := 245) (L' := [(2, .ref k1op), (1, zz (decide (ownN T))), (0, .ref 13)]) (S' := [.ref 13]) dm_X7_read_244 rfl rfl rfl rfl ?_
                      refine me3 (pc' := 248) (S' := [.ref 9]) dm_X7_read_245 (g_get (v := .ref 9) (hl_set (hl_lt k_13)) rfl rfl (by decide)) rfl rfl rfl ?_
                      refine x_cp (pc' := 251) (v := zz (decide (tqS (T mk) = 0))) (rest := []) dm_X7_read_248 rfl (g_inv (As := []) (S := []) (hl_ne (by decide) k_9) rfl rfl rfl (by decide)) rfl rfl rfl (tt_whole (i := 0) (by omega) hK (TT_set (by omega) kT)) ?_
                      refine y_zne (c := decide (tqS (T mk) = 0)) (t := 262) (pc' := 254) dm_X7_read_251 rfl rfl (fun hb18 => ?_) (fun hb18 => ?_)
                      · replace hb18 := dT hb18
                        have hzm := hb18
                        have hjmk : j_e = mk := Classical.byContradiction fun z => by have := hK.2.2.1 j_e (by omega); have := (cS_7 T j_e).2.2.2.2.2.2.2; omega
                        have hz0 : tqS (T j_e) = 0 := by rw [hjmk]; exact hzm
                        refine me1 (pc' := 263) (L' := [(2, .ref k1op), (1, zz (decide (ownN T))), (0, .ref 13)]) (S' := [.ref 13]) dm_X7_read_262 rfl rfl rfl rfl ?_
                        refine me3 (pc' := 266) (S' := [.ref kop]) dm_X7_read_263 (g_get (v := .ref kop) (hl_set (hl_lt k_13)) rfl rfl (by decide)) rfl rfl rfl ?_
                        refine me2 (pc' := 269) (S' := []) dm_X7_read_266 rfl rfl rfl ?_
                        refine me0 (pc' := 270) (S' := [ii 1]) dm_X7_read_269 rfl rfl rfl rfl ?_
                        refine me2 (pc' := 274) (S' := [ii 1]) dm_X7_read_270 rfl rfl rfl ?_
                        refine y_ret (r := some (ii 1)) dm_X7_read_274 rfl rfl rfl ?_
                        exact ⟨_, rfl, RL_v hlz (liR_v (liA_v hnw hls e1 hm41 hm58) ((liX_vn (by omega) e).trans (liE_0 hz0))) (hl_set (hl_lt k_13)) (rdF_set (Or.inl rfl) (rdF_tr g2F kF)) (by simp only [List.length_set]; omega) (by rw [sl_rd k_13]; omega) ⟨by omega, by omega, by simp only [List.length_set]; omega⟩ (cL_3 hls ⟨by omega, Or.inr ⟨by omega, by simp only [List.length_set]; omega⟩, (hl_ne (by omega) k_k0)⟩ ⟨by omega, Or.inr ⟨by omega, by simp only [List.length_set]; omega⟩, (hl_ne (by omega) k_k1)⟩ (cR_k (kp_rd (A := A) (g := g1) hA hl (by omega) (rdF_tr g2F1 (rdF_set (Or.inl rfl) kF)) (Or.inl rfl)) _ _ _ _ _ _ _ _ k1C) (cR_k (kp_rd (A := A) (g := g2) hA hl (by omega) (rdF_set (Or.inl rfl) (rdF_rf k 13)) (Or.inl rfl)) _ _ _ _ _ _ _ _ kC))⟩
                      · replace hb18 := dF hb18
                        have hnzm := hb18
                        have hjmk : j_e = mk := Classical.byContradiction fun z => by have := hK.2.2.1 j_e (by omega); have := (cS_7 T j_e).2.2.2.2.2.2.2; omega
                        have hnz : ¬ tqS (T j_e) = 0 := by rw [hjmk]; exact hnzm
                        refine me1 (pc' := 255) (L' := [(2, .ref k1op), (1, zz (decide (ownN T))), (0, .ref 13)]) (S' := [.ref 13]) dm_X7_read_254 rfl rfl rfl rfl ?_
                        refine me1 (pc' := 256) (L' := [(2, .ref k1op), (1, zz (decide (ownN T))), (0, .ref 13)]) (S' := [.ref 13, .ref 13]) dm_X7_read_255 rfl rfl rfl rfl ?_
                        refine x_cv (pc' := 259) (rest := [.ref 13]) dm_X7_read_256 rfl (g_inv (As := []) (S := [.ref 13]) (hl_set (hl_lt k_13)) rfl rfl rfl (by decide)) rfl rfl rfl (d_fail (i := j_e) (by omega) hK (TT_set (by omega) kT) (hl_set (hl_lt k_13)) (by omega) (by rw [List.set_set])) ?_
                        rintro _ _ ⟨rfl, rfl⟩
                        refine me3 (pc' := 262) (S' := []) (h1 := (k).set 13 (cO 7 [.ref 9, ii ((j_e : Nat) : Int), ii (tqP (T j_e) : Int), ii 3, .long (Int64.ofInt (tqD (T 0))), .null, ktl])) dm_X7_read_259 (g_put (fs' := [.ref 9, ii ((j_e : Nat) : Int), ii (tqP (T j_e) : Int), ii 3, .long (Int64.ofInt (tqD (T 0))), .null, ktl]) (hl_set (hl_lt k_13)) rfl (by rw [List.set_set]) rfl (by simp) rfl (by decide) (fun z => by cases z) (by decide)) rfl rfl rfl ?_
                        refine me1 (pc' := 263) (L' := [(2, .ref k1op), (1, zz (decide (ownN T))), (0, .ref 13)]) (S' := [.ref 13]) dm_X7_read_262 rfl rfl rfl rfl ?_
                        refine me3 (pc' := 266) (S' := [.null]) dm_X7_read_263 (g_get (v := .null) (hl_set (hl_lt k_13)) rfl rfl (by decide)) rfl rfl rfl ?_
                        refine me2 (pc' := 273) (S' := []) dm_X7_read_266 rfl rfl rfl ?_
                        refine me0 (pc' := 274) (S' := [ii 0]) dm_X7_read_273 rfl rfl rfl rfl ?_
                        refine y_ret (r := some (ii 0)) dm_X7_read_274 rfl rfl rfl ?_
                        exact ⟨_, rfl, RL_e hlz (liR_x (liA_v hnw hls e1 hm41 hm58) ((liX_vn (by omega) e).trans (liE_1 hnz))) (hl_set (hl_lt k_13)) (rdF_set (Or.inl rfl) (rdF_tr g2F kF)) (by simp only [List.length_set]; omega) (by rw [sl_rd k_13]; omega)⟩
                · have hm58 := hmk
                  refine x_cv (pc' := 153) (rest := []) dm_X7_read_150 rfl (g_inv (As := [ii 58]) (S := []) (hl_set (hl_lt k1_13)) rfl rfl rfl (by decide)) rfl rfl rfl (d_skipF (i := j_e1 + 1) (by omega) hK (TT_set (by omega) k1T) (hl_set (hl_lt k1_13)) (by omega) (by omega) hmk (by rw [List.set_set])) ?_
                  rintro _ _ ⟨rfl, rfl⟩
                  refine me_1f (pc' := 156) dm_X7_read_153 rfl (by decide) rfl ?_
                  refine me0 (pc' := 157) (S' := [ii 0]) dm_X7_read_156 rfl rfl rfl rfl ?_
                  refine y_ret (r := some (ii 0)) dm_X7_read_157 rfl rfl rfl ?_
                  exact ⟨_, rfl, RL_e hlz (liR_a (liA_y hnw hls e1 hm41 hm58)) (hl_set (hl_lt k1_13)) (rdF_set (Or.inl rfl) (rdF_tr g1F k1F)) (by simp only [List.length_set]; omega) (by rw [sl_rd k1_13]; omega)⟩
              · have hm41 := hmk
                refine x_cv (pc' := 144) (rest := []) dm_X7_read_141 rfl (g_inv (As := [ii 41]) (S := []) k1_13 rfl rfl rfl (by decide)) rfl rfl rfl (d_skipF (i := j_e1) (by omega) hK k1T k1_13 (by omega) (by omega) hmk rfl) ?_
                rintro _ _ ⟨rfl, rfl⟩
                refine me_1t (pc' := 156) dm_X7_read_144 rfl (by decide) ?_
                refine me0 (pc' := 157) (S' := [ii 0]) dm_X7_read_156 rfl rfl rfl rfl ?_
                refine y_ret (r := some (ii 0)) dm_X7_read_157 rfl rfl rfl ?_
                exact ⟨_, rfl, RL_e hlz (liR_a (liA_x hnw hls e1 hm41)) (hl_set (hl_lt k1_13)) (rdF_set (Or.inl rfl) (rdF_tr g1F k1F)) (by simp only [List.length_set]; omega) (by rw [sl_rd k1_13]; omega)⟩
          · have c4 := (cS_7 T 0).2.2.1
            have h04 : tqS (T 0) = 4 := by omega
            refine me1 (pc' := 100) (L' := [(1, zz (decide (ownN T))), (0, .ref 13)]) (S' := [.ref 13]) dm_X7_read_99 rfl rfl rfl rfl ?_
            refine me1 (pc' := 101) (L' := [(1, zz (decide (ownN T))), (0, .ref 13)]) (S' := [.ref 13, .ref 13]) dm_X7_read_100 rfl rfl rfl rfl ?_
            refine x_cv (pc' := 104) (rest := [.ref 13]) dm_X7_read_101 rfl (g_inv (As := []) (S := [.ref 13]) (hl_set (hl_lt h13)) rfl rfl rfl (by decide)) rfl rfl rfl (d_fail (i := 0) (by omega) hK (TT_set (by omega) hT) (hl_set (hl_lt h13)) (by omega) (by rw [List.set_set])) ?_
            rintro _ _ ⟨rfl, rfl⟩
            refine me3 (pc' := 107) (S' := []) (h1 := (h).set 13 (cO 7 [.ref 9, ii ((0 : Nat) : Int), ii (tqP (T 0) : Int), ii 3, .long (Int64.ofInt (tqD (T 0))), .null, tl])) dm_X7_read_104 (g_put (fs' := [.ref 9, ii ((0 : Nat) : Int), ii (tqP (T 0) : Int), ii 3, .long (Int64.ofInt (tqD (T 0))), .null, tl]) (hl_set (hl_lt h13)) rfl (by rw [List.set_set]) rfl (by simp) rfl (by decide) (fun z => by cases z) (by decide)) rfl rfl rfl ?_
            refine me0 (pc' := 108) (S' := [ii 0]) dm_X7_read_107 rfl rfl rfl rfl ?_
            refine y_ret (r := some (ii 0)) dm_X7_read_108 rfl rfl rfl ?_
            exact ⟨_, rfl, RL_e hlz (liR_a (liA_w ⟨by omega, Or.inr ⟨hls, h04⟩⟩)) (hl_set (hl_lt h13)) (rdF_set (Or.inl rfl) (rdF_rf h 13)) (by simp only [List.length_set]; omega) (by rw [sl_rd h13]; omega)⟩
      refine me3 (pc' := 44) (S' := [.long (Int64.ofInt (tqD (T 0)))]) dm_X7_read_41 (g_get (v := .long (Int64.ofInt (tqD (T 0)))) (hl_set (hl_lt h13)) rfl rfl (by decide)) rfl rfl rfl ?_
      refine me3 (pc' := 47) (S' := [.long (Int64.ofInt 24), .long (Int64.ofInt (tqD (T 0)))]) dm_X7_read_44 rfl rfl rfl rfl ?_
      refine y_leq (x := Int64.ofInt (tqD (T 0))) (y := Int64.ofInt 24) (t := 62) (pc1 := 48) (pc' := 51) dm_X7_read_47 rfl dm_X7_read_48 rfl rfl (fun hb19 => ?_) (fun hb19 => ?_)
      · have hb19i := congrArg Int64.toInt hb19
        rw [e64, e24] at hb19i
        refine me0 (pc' := 63) (S' := [ii 1]) dm_X7_read_62 rfl rfl rfl rfl ?_
        refine me2 (pc' := 67) (S' := [ii 1]) dm_X7_read_63 rfl rfl rfl ?_
        refine pg_st (S' := [zz (decide (ownN T))]) (congrArg (fun z => z :: []) (zt (by omega))) ?_
        refine me1 (pc' := 68) (L' := [(1, zz (decide (ownN T))), (0, .ref 13)]) (S' := []) dm_X7_read_67 rfl rfl rfl rfl ?_
        exact pg_sub (L := [(1, zz (decide (ownN T))), (0, .ref 13)]) rfl rfl rfl jn68
      · have hb19i : ¬ (Int64.ofInt (tqD (T 0))).toInt = (Int64.ofInt 24).toInt := fun z => hb19 (Int64.toInt_inj.mp z)
        rw [e64, e24] at hb19i
        refine me1 (pc' := 52) (L' := [(0, .ref 13)]) (S' := [.ref 13]) dm_X7_read_51 rfl rfl rfl rfl ?_
        refine me3 (pc' := 55) (S' := [.long (Int64.ofInt (tqD (T 0)))]) dm_X7_read_52 (g_get (v := .long (Int64.ofInt (tqD (T 0)))) (hl_set (hl_lt h13)) rfl rfl (by decide)) rfl rfl rfl ?_
        refine me3 (pc' := 58) (S' := [.long (Int64.ofInt 25), .long (Int64.ofInt (tqD (T 0)))]) dm_X7_read_55 rfl rfl rfl rfl ?_
        refine y_lne (x := Int64.ofInt (tqD (T 0))) (y := Int64.ofInt 25) (t := 66) (pc1 := 59) (pc' := 62) dm_X7_read_58 rfl dm_X7_read_59 rfl rfl (fun hb20 => ?_) (fun hb20 => ?_)
        · have hb20i : ¬ (Int64.ofInt (tqD (T 0))).toInt = (Int64.ofInt 25).toInt := fun z => hb20 (Int64.toInt_inj.mp z)
          rw [e64, e25] at hb20i
          refine me0 (pc' := 67) (S' := [ii 0]) dm_X7_read_66 rfl rfl rfl rfl ?_
          refine pg_st (S' := [zz (decide (ownN T))]) (congrArg (fun z => z :: []) (zf (by omega))) ?_
          refine me1 (pc' := 68) (L' := [(1, zz (decide (ownN T))), (0, .ref 13)]) (S' := []) dm_X7_read_67 rfl rfl rfl rfl ?_
          exact pg_sub (L := [(1, zz (decide (ownN T))), (0, .ref 13)]) rfl rfl rfl jn68
        · have hb20i := congrArg Int64.toInt hb20
          rw [e64, e25] at hb20i
          refine me0 (pc' := 63) (S' := [ii 1]) dm_X7_read_62 rfl rfl rfl rfl ?_
          refine me2 (pc' := 67) (S' := [ii 1]) dm_X7_read_63 rfl rfl rfl ?_
          refine pg_st (S' := [zz (decide (ownN T))]) (congrArg (fun z => z :: []) (zt (by omega))) ?_
          refine me1 (pc' := 68) (L' := [(1, zz (decide (ownN T))), (0, .ref 13)]) (S' := []) dm_X7_read_67 rfl rfl rfl rfl ?_
          exact pg_sub (L := [(1, zz (decide (ownN T))), (0, .ref 13)]) rfl rfl rfl jn68
  refine x_cp (pc' := 14) (v := .long (Int64.ofInt (tqD (T 0)))) (rest := [.ref 13]) dm_X7_read_11 rfl (g_inv (As := [ii ((0 : Nat) : Int)]) (S := [.ref 13]) (hl_ne (by decide) h9) rfl rfl rfl (by decide)) rfl rfl rfl (tt_data (i := 0) (by omega) hK (TT_set (by omega) hT) (by omega)) ?_
  refine me3 (pc' := 17) (S' := []) (h1 := (h).set 13 (cO 7 [.ref 9, ii ((0 : Nat) : Int), ii wr, ii ls, .long (Int64.ofInt (tqD (T 0))), st, tl])) dm_X7_read_14 (g_put (fs' := [.ref 9, ii ((0 : Nat) : Int), ii wr, ii ls, .long (Int64.ofInt (tqD (T 0))), st, tl]) (hl_set (hl_lt h13)) rfl (by rw [List.set_set]) rfl (by simp) rfl (by decide) (fun z => by cases z) (by decide)) rfl rfl rfl ?_
  refine me1 (pc' := 18) (L' := [(0, .ref 13)]) (S' := [.ref 13]) dm_X7_read_17 rfl rfl rfl rfl ?_
  refine me1 (pc' := 19) (L' := [(0, .ref 13)]) (S' := [.ref 13, .ref 13]) dm_X7_read_18 rfl rfl rfl rfl ?_
  refine me3 (pc' := 22) (S' := [.ref 9, .ref 13]) dm_X7_read_19 (g_get (v := .ref 9) (hl_set (hl_lt h13)) rfl rfl (by decide)) rfl rfl rfl ?_
  refine me0 (pc' := 23) (S' := [ii 0, .ref 9, .ref 13]) dm_X7_read_22 rfl rfl rfl rfl ?_
  refine pg_st (S' := [ii ((0 : Nat) : Int), .ref 9, .ref 13]) (congrArg (fun z => ii z :: [.ref 9, .ref 13]) (rfl)) ?_
  refine x_cp (pc' := 26) (v := zz (decide (tqS (T 0) = 3 ∨ tqS (T 0) = 4))) (rest := [.ref 13]) dm_X7_read_23 rfl (g_inv (As := [ii ((0 : Nat) : Int)]) (S := [.ref 13]) (hl_ne (by decide) h9) rfl rfl rfl (by decide)) rfl rfl rfl (tt_name (i := 0) (by omega) hK (TT_set (by omega) hT) (by omega)) ?_
  refine y_zeq (c := decide (tqS (T 0) = 3 ∨ tqS (T 0) = 4)) (t := 36) (pc' := 29) dm_X7_read_26 rfl rfl (fun hb21 => ?_) (fun hb21 => ?_)
  · replace hb21 := dF hb21
    have hnn := hb21
    refine me0 (pc' := 37) (S' := [ii 0, .ref 13]) dm_X7_read_36 rfl rfl rfl rfl ?_
    refine pg_st (S' := [ii ((liS T : Nat) : Int), .ref 13]) (congrArg (fun z => ii z :: [.ref 13]) (by unfold liS; rw [if_neg hnn]; rfl)) ?_
    refine me3 (pc' := 40) (S' := []) (h1 := (h).set 13 (cO 7 [.ref 9, ii ((0 : Nat) : Int), ii wr, ii ((liS T : Nat) : Int), .long (Int64.ofInt (tqD (T 0))), st, tl])) dm_X7_read_37 (g_put (fs' := [.ref 9, ii ((0 : Nat) : Int), ii wr, ii ((liS T : Nat) : Int), .long (Int64.ofInt (tqD (T 0))), st, tl]) (hl_set (hl_lt h13)) rfl (by rw [List.set_set]) rfl (by simp) rfl (by decide) (fun z => by cases z) (by decide)) rfl rfl rfl ?_
    exact pg_sub (L := [(0, .ref 13)]) rfl rfl rfl jn40
  · replace hb21 := dT hb21
    have hnm := hb21
    refine me1 (pc' := 30) (L' := [(0, .ref 13)]) (S' := [.ref 13, .ref 13]) dm_X7_read_29 rfl rfl rfl rfl ?_
    refine x_cp (pc' := 33) (v := ii ((liS T : Nat) : Int)) (rest := [.ref 13]) dm_X7_read_30 rfl (g_inv (As := []) (S := [.ref 13]) (hl_set (hl_lt h13)) rfl rfl rfl (by decide)) rfl rfl rfl (d_sortOfLine (i := 0) (by omega) hK (TT_set (by omega) hT) (hl_set (hl_lt h13)) (by have := TOKS_lt hK (i := 0) (by omega); omega) hnm) ?_
    refine me2 (pc' := 37) (S' := [ii ((liS T : Nat) : Int), .ref 13]) dm_X7_read_33 rfl rfl rfl ?_
    refine me3 (pc' := 40) (S' := []) (h1 := (h).set 13 (cO 7 [.ref 9, ii ((0 : Nat) : Int), ii wr, ii ((liS T : Nat) : Int), .long (Int64.ofInt (tqD (T 0))), st, tl])) dm_X7_read_37 (g_put (fs' := [.ref 9, ii ((0 : Nat) : Int), ii wr, ii ((liS T : Nat) : Int), .long (Int64.ofInt (tqD (T 0))), st, tl]) (hl_set (hl_lt h13)) rfl (by rw [List.set_set]) rfl (by simp) rfl (by decide) (fun z => by cases z) (by decide)) rfl rfl rfl ?_
    exact pg_sub (L := [(0, .ref 13)]) rfl rfl rfl jn40
