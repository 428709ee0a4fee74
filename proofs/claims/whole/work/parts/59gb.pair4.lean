theorem setoq {h : mj_H} {a b : Nat} {x y z : mj_E} (hn : a ≠ b) : ((h.set a x).set b y).set a z = (h.set a z).set b y := by
  rw [List.set_comm _ _ hn.symm, List.set_set]
theorem ite_p {α : Type} {P : α → Prop} {c : Prop} [Decidable c] {x y : α} (hx : P x) (hy : P y) : P (if c then x else y) := by
  by_cases h : c
  · rw [if_pos h]; exact hx
  · rw [if_neg h]; exact hy
def r6 (x : Int × Int64) : Prop := 0 ≤ x.1 ∧ x.1 ≤ 6
theorem r6_c {a : Int} {x : Int64} (h : 0 ≤ a ∧ a ≤ 6) : r6 (a, x) := h
theorem r6_i {c : Prop} [Decidable c] {x : Int64} : r6 (if c then 6 else 0, x) := r6_c (ite_p (P := fun a : Int => 0 ≤ a ∧ a ≤ 6) (by decide) (by decide))
theorem quoF_r (a b : Int64) : r6 (quoF a b) := ite_p (r6_c (by decide)) (ite_p (r6_c (by decide)) (r6_c (by decide)))
theorem rstF_r (a b : Int64) : r6 (rstF a b) := ite_p (r6_c (by decide)) (r6_c (by decide))
theorem outF_r (vb : Int) (k1 k2 : Nat) (a b : Int64) : 0 ≤ (outF vb k1 k2 a b).1 ∧ (outF vb k1 k2 a b).1 ≤ 6 := by
  show r6 (outF vb k1 k2 a b)
  exact ite_p (r6_c (by decide)) (ite_p (r6_c (by decide)) (ite_p (r6_c (by decide)) (ite_p (r6_c (by decide)) (ite_p r6_i (ite_p r6_i (ite_p r6_i (ite_p (quoF_r _ _) (ite_p (rstF_r _ _) (ite_p (r6_c (by decide)) (ite_p (r6_c (by decide)) (ite_p (r6_c (by decide)) (ite_p (r6_c (by decide)) (r6_c (by decide))))))))))))))
theorem askF_r (v w : VV) : 0 ≤ askF v w ∧ askF v w ≤ 4 := ite_p (P := fun a : Int => 0 ≤ a ∧ a ≤ 4) (by decide) (ite_p (P := fun a : Int => 0 ≤ a ∧ a ≤ 4) (by decide) (ite_p (P := fun a : Int => 0 ≤ a ∧ a ≤ 4) (by decide) (by decide)))
/-- the first that isn't 0 -/
def errs (g : Nat → Int) : Nat → Int
  | 0 => 0
  | k + 1 => if errs g k = 0 then g k else errs g k
theorem errs_mono {g : Nat → Int} {k : Nat} (h : errs g k ≠ 0) : ∀ i, errs g (k + i) = errs g k := by
  intro i; induction i with
  | zero => rfl
  | succ i ih => show (if errs g (k + i) = 0 then g (k + i) else errs g (k + i)) = errs g k; rw [ih, if_neg h]
/-- the number at a place, and its fault, also that of a TABLE -/
def outT (vb : Int) (v w lk : VV) (j : Nat) : Int × Int64 := (if (outF vb (vk v) (vk w) (vnum v (j : Int)) (vnum w (j : Int))).1 = 0 ∧ vk lk = 6 ∧ fitsB (outF vb (vk v) (vk w) (vnum v (j : Int)) (vnum w (j : Int))).2 = false then 6 else (outF vb (vk v) (vk w) (vnum v (j : Int)) (vnum w (j : Int))).1, (outF vb (vk v) (vk w) (vnum v (j : Int)) (vnum w (j : Int))).2)
/-- the fault of two that are no nests, up to a place -/
def flE (vb : Int) (v w lk : VV) (k : Nat) : Int := if askF v w = 0 then errs (fun j => (outT vb v w lk j).1) k else askF v w
theorem flE_0 {vb : Int} {v w lk : VV} : askF v w = flE vb v w lk 0 := by
  unfold flE errs; split
  · assumption
  · rfl
theorem flE_s {vb : Int} {v w lk : VV} {k : Nat} (h : flE vb v w lk k = 0) : flE vb v w lk (k + 1) = (outT vb v w lk k).1 := by
  by_cases z : askF v w = 0
  · unfold flE at *
    rw [if_pos z] at h ⊢
    show (if _ = 0 then _ else _) = _
    rw [if_pos h]
  · unfold flE at h; rw [if_neg z] at h; exact absurd h z
theorem flE_m {vb : Int} {v w lk : VV} {k n : Nat} (h : flE vb v w lk k ≠ 0) (hk : k ≤ n) : flE vb v w lk n = flE vb v w lk k := by
  unfold flE at *
  by_cases z : askF v w = 0
  · rw [if_pos z] at h ⊢; rw [if_pos z]
    have := errs_mono h (n - k)
    rw [show k + (n - k) = n by omega] at this
    exact this
  · rw [if_neg z, if_neg z]
/-- what stands among the numbers -/
def flN (vb : Int) (v w lk : VV) (m0 : Nat) (N0 : Nat → Int64) (k m : Nat) (N : Nat → Int64) : Prop := (flE vb v w lk k = 0 → m = min 1000 (m0 + k) ∧ ∀ j, j < k → m0 + j < 1000 → N (m0 + j) = (outT vb v w lk j).2) ∧ (∀ j, j < m0 → N j = N0 j)
theorem flN_0 {vb : Int} {v w lk : VV} {m0 : Nat} {N0 : Nat → Int64} (h : m0 ≤ 1000) : flN vb v w lk m0 N0 0 m0 N0 := ⟨fun _ => ⟨by omega, fun j hj => absurd hj (Nat.not_lt_zero j)⟩, fun _ _ => rfl⟩
theorem flN_s {vb : Int} {v w lk : VV} {m0 k m : Nat} {N0 N : Nat → Int64} (h : flN vb v w lk m0 N0 k m N) (hf : flE vb v w lk k = 0) (hm : m < 1000) : flN vb v w lk m0 N0 (k + 1) (m + 1) (va_up N m (outT vb v w lk k).2) := by
  obtain ⟨h1, h2⟩ := h
  obtain ⟨h3, h4⟩ := h1 hf
  refine ⟨fun _ => ⟨by omega, fun j hj hj2 => ?_⟩, fun j hj => ?_⟩
  · rw [up_at]
    by_cases z : j = k
    · subst z; rw [if_pos (by omega)]
    · rw [if_neg (by omega)]; exact h4 j (by omega) hj2
  · rw [up_at, if_neg (by omega)]; exact h2 j hj
theorem flN_t {vb : Int} {v w lk : VV} {m0 k m : Nat} {N0 N : Nat → Int64} (h : flN vb v w lk m0 N0 k m N) (hf : flE vb v w lk k = 0) (hm : 1000 ≤ m) : flN vb v w lk m0 N0 (k + 1) m N := by
  obtain ⟨h1, h2⟩ := h
  obtain ⟨h3, h4⟩ := h1 hf
  refine ⟨fun _ => ⟨by omega, fun j hj hj2 => ?_⟩, h2⟩
  by_cases z : j = k
  · subst z; omega
  · exact h4 j (by omega) hj2
theorem flN_m {vb : Int} {v w lk : VV} {m0 k n m : Nat} {N0 N : Nat → Int64} (h : flN vb v w lk m0 N0 k m N) (hk : k ≤ n) (he : k = n ∨ flE vb v w lk k ≠ 0) : flE vb v w lk k = flE vb v w lk n ∧ flN vb v w lk m0 N0 n m N := by
  rcases he with he | he
  · subst he; exact ⟨rfl, h⟩
  · have := flE_m he hk
    exact ⟨this.symm, ⟨fun z => absurd (this ▸ z) he, h.2⟩⟩
theorem outT_1 {vb : Int} {v w lk : VV} {j : Nat} (h : ¬ ((outF vb (vk v) (vk w) (vnum v (j : Int)) (vnum w (j : Int))).1 = 0 ∧ vk lk = 6 ∧ fitsB (outF vb (vk v) (vk w) (vnum v (j : Int)) (vnum w (j : Int))).2 = false)) : (outT vb v w lk j).1 = (outF vb (vk v) (vk w) (vnum v (j : Int)) (vnum w (j : Int))).1 := by unfold outT; exact if_neg h
theorem outT_6 {vb : Int} {v w lk : VV} {j : Nat} (h : (outF vb (vk v) (vk w) (vnum v (j : Int)) (vnum w (j : Int))).1 = 0 ∧ vk lk = 6 ∧ fitsB (outF vb (vk v) (vk w) (vnum v (j : Int)) (vnum w (j : Int))).2 = false) : (outT vb v w lk j).1 = 6 := by unfold outT; exact if_pos h
theorem outT_2 {vb : Int} {v w lk : VV} {j : Nat} : (outT vb v w lk j).2 = (outF vb (vk v) (vk w) (vnum v (j : Int)) (vnum w (j : Int))).2 := by unfold outT; rfl
theorem zzT : zz true = ii 1 := rfl
theorem zzF : zz false = ii 0 := rfl
set_option maxRecDepth 20000 in
theorem pm_X5_askFlat : mj_mmof pg_ms 88 = some ((⟨"ArrayCalculator$Paired", "askFlat", "(LArrayCalculator$Value;LArrayCalculator$Value;I)V"⟩, prog_7_method_4_code, 9, (Option.none : Option Jvm.ClassFile.FieldType)), 5, false, mj_dec prog_7_method_4_code) := rfl
theorem dm_X5_askFlat_0 : mj_dec prog_7_method_4_code 0 = some (.aload_n 0, 1) := by decide +kernel
theorem dm_X5_askFlat_1 : mj_dec prog_7_method_4_code 1 = some (.aload_n 1, 1) := by decide +kernel
theorem dm_X5_askFlat_2 : mj_dec prog_7_method_4_code 2 = some (.aload_n 2, 1) := by decide +kernel
theorem dm_X5_askFlat_3 : mj_dec prog_7_method_4_code 3 = some (.invokestatic 75, 3) := by decide +kernel
theorem dm_X5_askFlat_6 : mj_dec prog_7_method_4_code 6 = some (.putfield 25, 3) := by decide +kernel
theorem dm_X5_askFlat_9 : mj_dec prog_7_method_4_code 9 = some (.aload_n 1, 1) := by decide +kernel
theorem dm_X5_askFlat_10 : mj_dec prog_7_method_4_code 10 = some (.invokevirtual 79, 3) := by decide +kernel
theorem dm_X5_askFlat_13 : mj_dec prog_7_method_4_code 13 = some (.ifCond .eq 7, 3) := by decide +kernel
theorem dm_X5_askFlat_16 : mj_dec prog_7_method_4_code 16 = some (.aload_n 2, 1) := by decide +kernel
theorem dm_X5_askFlat_17 : mj_dec prog_7_method_4_code 17 = some (.goto 4, 3) := by decide +kernel
theorem dm_X5_askFlat_21 : mj_dec prog_7_method_4_code 21 = some (.astore 4, 2) := by decide +kernel
theorem dm_X5_askFlat_23 : mj_dec prog_7_method_4_code 23 = some (.aload 4, 2) := by decide +kernel
theorem dm_X5_askFlat_25 : mj_dec prog_7_method_4_code 25 = some (.invokevirtual 83, 3) := by decide +kernel
theorem dm_X5_askFlat_28 : mj_dec prog_7_method_4_code 28 = some (.istore 5, 2) := by decide +kernel
theorem dm_X5_askFlat_30 : mj_dec prog_7_method_4_code 30 = some (.iconst 0, 1) := by decide +kernel
theorem dm_X5_askFlat_31 : mj_dec prog_7_method_4_code 31 = some (.istore 6, 2) := by decide +kernel
theorem dm_X5_askFlat_33 : mj_dec prog_7_method_4_code 33 = some (.iload 6, 2) := by decide +kernel
theorem dm_X5_askFlat_35 : mj_dec prog_7_method_4_code 35 = some (.iload 5, 2) := by decide +kernel
theorem dm_X5_askFlat_37 : mj_dec prog_7_method_4_code 37 = some (.if_icmp .ge 90, 3) := by decide +kernel
theorem dm_X5_askFlat_40 : mj_dec prog_7_method_4_code 40 = some (.aload_n 0, 1) := by decide +kernel
theorem dm_X5_askFlat_41 : mj_dec prog_7_method_4_code 41 = some (.getfield 25, 3) := by decide +kernel
theorem dm_X5_askFlat_44 : mj_dec prog_7_method_4_code 44 = some (.ifCond .ne 83, 3) := by decide +kernel
theorem dm_X5_askFlat_47 : mj_dec prog_7_method_4_code 47 = some (.aload_n 0, 1) := by decide +kernel
theorem dm_X5_askFlat_48 : mj_dec prog_7_method_4_code 48 = some (.aload_n 1, 1) := by decide +kernel
theorem dm_X5_askFlat_49 : mj_dec prog_7_method_4_code 49 = some (.aload_n 2, 1) := by decide +kernel
theorem dm_X5_askFlat_50 : mj_dec prog_7_method_4_code 50 = some (.iload 6, 2) := by decide +kernel
theorem dm_X5_askFlat_52 : mj_dec prog_7_method_4_code 52 = some (.invokevirtual 86, 3) := by decide +kernel
theorem dm_X5_askFlat_55 : mj_dec prog_7_method_4_code 55 = some (.lstore 7, 2) := by decide +kernel
theorem dm_X5_askFlat_57 : mj_dec prog_7_method_4_code 57 = some (.aload_n 0, 1) := by decide +kernel
theorem dm_X5_askFlat_58 : mj_dec prog_7_method_4_code 58 = some (.getfield 25, 3) := by decide +kernel
theorem dm_X5_askFlat_61 : mj_dec prog_7_method_4_code 61 = some (.ifCond .ne 27, 3) := by decide +kernel
theorem dm_X5_askFlat_64 : mj_dec prog_7_method_4_code 64 = some (.aload 4, 2) := by decide +kernel
theorem dm_X5_askFlat_66 : mj_dec prog_7_method_4_code 66 = some (.getfield 50, 3) := by decide +kernel
theorem dm_X5_askFlat_69 : mj_dec prog_7_method_4_code 69 = some (.bipush 6, 2) := by decide +kernel
theorem dm_X5_askFlat_71 : mj_dec prog_7_method_4_code 71 = some (.if_icmp .ne 17, 3) := by decide +kernel
theorem dm_X5_askFlat_74 : mj_dec prog_7_method_4_code 74 = some (.lload 7, 2) := by decide +kernel
theorem dm_X5_askFlat_76 : mj_dec prog_7_method_4_code 76 = some (.invokestatic 90, 3) := by decide +kernel
theorem dm_X5_askFlat_79 : mj_dec prog_7_method_4_code 79 = some (.ifCond .ne 9, 3) := by decide +kernel
theorem dm_X5_askFlat_82 : mj_dec prog_7_method_4_code 82 = some (.aload_n 0, 1) := by decide +kernel
theorem dm_X5_askFlat_83 : mj_dec prog_7_method_4_code 83 = some (.bipush 6, 2) := by decide +kernel
theorem dm_X5_askFlat_85 : mj_dec prog_7_method_4_code 85 = some (.putfield 25, 3) := by decide +kernel
theorem dm_X5_askFlat_88 : mj_dec prog_7_method_4_code 88 = some (.aload_n 0, 1) := by decide +kernel
theorem dm_X5_askFlat_89 : mj_dec prog_7_method_4_code 89 = some (.getfield 34, 3) := by decide +kernel
theorem dm_X5_askFlat_92 : mj_dec prog_7_method_4_code 92 = some (.aload_n 0, 1) := by decide +kernel
theorem dm_X5_askFlat_93 : mj_dec prog_7_method_4_code 93 = some (.getfield 9, 3) := by decide +kernel
theorem dm_X5_askFlat_96 : mj_dec prog_7_method_4_code 96 = some (.arraylength, 1) := by decide +kernel
theorem dm_X5_askFlat_97 : mj_dec prog_7_method_4_code 97 = some (.if_icmp .ge 24, 3) := by decide +kernel
theorem dm_X5_askFlat_100 : mj_dec prog_7_method_4_code 100 = some (.aload_n 0, 1) := by decide +kernel
theorem dm_X5_askFlat_101 : mj_dec prog_7_method_4_code 101 = some (.getfield 9, 3) := by decide +kernel
theorem dm_X5_askFlat_104 : mj_dec prog_7_method_4_code 104 = some (.aload_n 0, 1) := by decide +kernel
theorem dm_X5_askFlat_105 : mj_dec prog_7_method_4_code 105 = some (.getfield 34, 3) := by decide +kernel
theorem dm_X5_askFlat_108 : mj_dec prog_7_method_4_code 108 = some (.lload 7, 2) := by decide +kernel
theorem dm_X5_askFlat_110 : mj_dec prog_7_method_4_code 110 = some (.lastore, 1) := by decide +kernel
theorem dm_X5_askFlat_111 : mj_dec prog_7_method_4_code 111 = some (.aload_n 0, 1) := by decide +kernel
theorem dm_X5_askFlat_112 : mj_dec prog_7_method_4_code 112 = some (.dup, 1) := by decide +kernel
theorem dm_X5_askFlat_113 : mj_dec prog_7_method_4_code 113 = some (.getfield 34, 3) := by decide +kernel
theorem dm_X5_askFlat_116 : mj_dec prog_7_method_4_code 116 = some (.iconst 1, 1) := by decide +kernel
theorem dm_X5_askFlat_117 : mj_dec prog_7_method_4_code 117 = some (.iadd, 1) := by decide +kernel
theorem dm_X5_askFlat_118 : mj_dec prog_7_method_4_code 118 = some (.putfield 34, 3) := by decide +kernel
theorem dm_X5_askFlat_121 : mj_dec prog_7_method_4_code 121 = some (.iinc 6 1, 3) := by decide +kernel
theorem dm_X5_askFlat_124 : mj_dec prog_7_method_4_code 124 = some (.goto (-91), 3) := by decide +kernel
theorem dm_X5_askFlat_127 : mj_dec prog_7_method_4_code 127 = some (.aload_n 0, 1) := by decide +kernel
theorem dm_X5_askFlat_128 : mj_dec prog_7_method_4_code 128 = some (.dup, 1) := by decide +kernel
theorem dm_X5_askFlat_129 : mj_dec prog_7_method_4_code 129 = some (.getfield 28, 3) := by decide +kernel
theorem dm_X5_askFlat_132 : mj_dec prog_7_method_4_code 132 = some (.aload 4, 2) := by decide +kernel
theorem dm_X5_askFlat_134 : mj_dec prog_7_method_4_code 134 = some (.getfield 94, 3) := by decide +kernel
theorem dm_X5_askFlat_137 : mj_dec prog_7_method_4_code 137 = some (.iadd, 1) := by decide +kernel
theorem dm_X5_askFlat_138 : mj_dec prog_7_method_4_code 138 = some (.putfield 28, 3) := by decide +kernel
theorem dm_X5_askFlat_141 : mj_dec prog_7_method_4_code 141 = some (.aload_n 0, 1) := by decide +kernel
theorem dm_X5_askFlat_142 : mj_dec prog_7_method_4_code 142 = some (.aload_n 0, 1) := by decide +kernel
theorem dm_X5_askFlat_143 : mj_dec prog_7_method_4_code 143 = some (.getfield 31, 3) := by decide +kernel
theorem dm_X5_askFlat_146 : mj_dec prog_7_method_4_code 146 = some (.iload_n 3, 1) := by decide +kernel
theorem dm_X5_askFlat_147 : mj_dec prog_7_method_4_code 147 = some (.aload 4, 2) := by decide +kernel
theorem dm_X5_askFlat_149 : mj_dec prog_7_method_4_code 149 = some (.getfield 95, 3) := by decide +kernel
theorem dm_X5_askFlat_152 : mj_dec prog_7_method_4_code 152 = some (.iadd, 1) := by decide +kernel
theorem dm_X5_askFlat_153 : mj_dec prog_7_method_4_code 153 = some (.invokestatic 62, 3) := by decide +kernel
theorem dm_X5_askFlat_156 : mj_dec prog_7_method_4_code 156 = some (.putfield 31, 3) := by decide +kernel
theorem dm_X5_askFlat_159 : mj_dec prog_7_method_4_code 159 = some (.aload_n 0, 1) := by decide +kernel
theorem dm_X5_askFlat_160 : mj_dec prog_7_method_4_code 160 = some (.aload_n 0, 1) := by decide +kernel
theorem dm_X5_askFlat_161 : mj_dec prog_7_method_4_code 161 = some (.getfield 40, 3) := by decide +kernel
theorem dm_X5_askFlat_164 : mj_dec prog_7_method_4_code 164 = some (.ifCond .ne 16, 3) := by decide +kernel
theorem dm_X5_askFlat_167 : mj_dec prog_7_method_4_code 167 = some (.iload 5, 2) := by decide +kernel
theorem dm_X5_askFlat_169 : mj_dec prog_7_method_4_code 169 = some (.ifCond .le 15, 3) := by decide +kernel
theorem dm_X5_askFlat_172 : mj_dec prog_7_method_4_code 172 = some (.aload 4, 2) := by decide +kernel
theorem dm_X5_askFlat_174 : mj_dec prog_7_method_4_code 174 = some (.invokevirtual 79, 3) := by decide +kernel
theorem dm_X5_askFlat_177 : mj_dec prog_7_method_4_code 177 = some (.ifCond .ne 7, 3) := by decide +kernel
theorem dm_X5_askFlat_180 : mj_dec prog_7_method_4_code 180 = some (.iconst 1, 1) := by decide +kernel
theorem dm_X5_askFlat_181 : mj_dec prog_7_method_4_code 181 = some (.goto 4, 3) := by decide +kernel
theorem dm_X5_askFlat_184 : mj_dec prog_7_method_4_code 184 = some (.iconst 0, 1) := by decide +kernel
theorem dm_X5_askFlat_185 : mj_dec prog_7_method_4_code 185 = some (.putfield 40, 3) := by decide +kernel
theorem dm_X5_askFlat_188 : mj_dec prog_7_method_4_code 188 = some (.return_, 1) := by decide +kernel
theorem p_askFlat1 {xt : mj_X} {d e p : Nat} {A : Nat → Prop} {h : mj_H} {v : VV} {q m0 : Nat} {w : VV} {ar : Int} {N0 : Nat → Int64} {f1 : Nat → Value} (hx1 : xt 1 = some (.long, 0, f1)) (hd : 4 ≤ d) (hA : okA A h) (hv : cv A h (e + 1) p v) (hw : cv A h (e + 1) q w) {o nq : Nat} {vb sz lv vm_ nu vu : Int} {rw_ : Bool} {ro va : Value} (hoq : (o = 23 ∧ nq = 24) ∨ (o = 27 ∧ nq = 28)) (ho : h[o]? = some (PO vb 0 nq sz lv (m0 : Int) vm_ rw_ ro va nu vu)) (hnq : h[nq]? = some (cJ 1000 N0)) (hm0 : m0 ≤ 1000) (hvb : -2147483648 ≤ vb ∧ vb ≤ 2147483647) (hlv : 0 ≤ lv ∧ lv ≤ 1000) (har : 0 ≤ ar ∧ ar ≤ 1000) (hlk :  vk v ≤ 1) : pgN xt d 88 [.ref o, .ref p, .ref q, ii ar] h (fun h' => ∃ (m : Nat) (N : Nat → Int64), h' = (h.set o (PO vb (flE vb v w w (vq w)) nq (sz + (vsz (e + 1) w : Int)) (max lv (ar + (vlv (e + 1) w : Int))) (m : Int) vm_ (rw_ || decide (0 < vq w ∧ ¬ vk w ≤ 1)) ro va nu vu)).set nq (cJ 1000 N) ∧ m ≤ 1000 ∧ flN vb v w w m0 N0 (vq w) m N) := by
  have hcv := vw1_c hv.1
  have hcw := vw1_c hw.1
  obtain ⟨row, fr, vals, hp, hp2, hpA, hvk, hvm, hvc, hvs, hvl⟩ := cv_val hv
  obtain ⟨row2, fr2, vals2, hq, hq2, hqA, hwk, hwm, hwc, hws, hwl⟩ := cv_val hw
  have haf := askF_r v w
  have hqv := vq_le hv.1
  have hqw := vq_le hw.1
  have hpb := hA p hpA
  have hqb := hA q hqA
  clear hcv hcw
  have hne : o ≠ nq ∧ 2 ≤ o ∧ 2 ≤ nq ∧ o < 127 ∧ nq < 127 ∧ o ≠ 25 ∧ nq ≠ 25 ∧ o ≠ 101 ∧ nq ≠ 101 ∧ p ≠ o ∧ p ≠ nq ∧ q ≠ o ∧ q ≠ nq := by omega
  clear hoq hpb hqb
  refine x_enter pm_X5_askFlat (L0 := [(0, .ref o), (1, .ref p), (2, .ref q), (3, ii ar)]) rfl (Nat.le_of_ble_eq_true rfl) (by omega) ?_
  refine me1 (pc' := 1) (L' := [(0, .ref o), (1, .ref p), (2, .ref q), (3, ii ar)]) (S' := [.ref o]) dm_X5_askFlat_0 rfl rfl rfl rfl ?_
  refine me1 (pc' := 2) (L' := [(0, .ref o), (1, .ref p), (2, .ref q), (3, ii ar)]) (S' := [.ref p, .ref o]) dm_X5_askFlat_1 rfl rfl rfl rfl ?_
  refine me1 (pc' := 3) (L' := [(0, .ref o), (1, .ref p), (2, .ref q), (3, ii ar)]) (S' := [.ref q, .ref p, .ref o]) dm_X5_askFlat_2 rfl rfl rfl rfl ?_
  refine x_cp (pc' := 6) (v := ii (askF v w)) (rest := [.ref o]) dm_X5_askFlat_3 rfl (g_invs (As := [.ref p, .ref q]) (S := [.ref o]) rfl rfl rfl) rfl rfl rfl (p_asked (by omega) hv hw) ?_
  refine me3 (pc' := 9) (S' := []) (h1 := (h).set o (cO 5 [ii vb, ii (askF v w), .ref nq, ii sz, ii lv, ii (m0 : Int), ii vm_, zz rw_, ro, va, ii nu, ii vu])) dm_X5_askFlat_6 (g_put (fs' := [ii vb, ii (askF v w), .ref nq, ii sz, ii lv, ii (m0 : Int), ii vm_, zz rw_, ro, va, ii nu, ii vu]) ho rfl rfl rfl (by simp) rfl (by decide) (fun z => by cases z) (by omega)) rfl rfl rfl ?_
  refine me1 (pc' := 10) (L' := [(0, .ref o), (1, .ref p), (2, .ref q), (3, ii ar)]) (S' := [.ref p]) dm_X5_askFlat_9 rfl rfl rfl rfl ?_
  refine x_cp (pc' := 13) (v := zz (decide (vk v ≤ 1))) (rest := []) dm_X5_askFlat_10 rfl (g_inv (As := []) (S := []) (hl_ne (by omega) hp) rfl rfl rfl (by omega)) rfl rfl rfl (c_isOne (by omega) (cv_set (nA hA (Or.inl (by omega))) hv)) ?_
  refine y_zeq (c := decide (vk v ≤ 1)) (t := 20) (pc' := 16) dm_X5_askFlat_13 rfl rfl (fun hb1 => ?_) (fun hb1 => ?_)
  · replace hb1 := dF hb1; exfalso; omega
  · replace hb1 := dT hb1
    refine me1 (pc' := 17) (L' := [(0, .ref o), (1, .ref p), (2, .ref q), (3, ii ar)]) (S' := [.ref q]) dm_X5_askFlat_16 rfl rfl rfl rfl ?_
    refine me2 (pc' := 21) (S' := [.ref q]) dm_X5_askFlat_17 rfl rfl rfl ?_
    refine me1 (pc' := 23) (L' := [(4, .ref q), (0, .ref o), (1, .ref p), (2, .ref q), (3, ii ar)]) (S' := []) dm_X5_askFlat_21 rfl rfl rfl rfl ?_
    refine me1 (pc' := 25) (L' := [(4, .ref q), (0, .ref o), (1, .ref p), (2, .ref q), (3, ii ar)]) (S' := [.ref q]) dm_X5_askFlat_23 rfl rfl rfl rfl ?_
    refine x_cp (pc' := 28) (v := ii (vq w : Int)) (rest := []) dm_X5_askFlat_25 rfl (g_inv (As := []) (S := []) (hl_ne (by omega) hq) rfl rfl rfl (by omega)) rfl rfl rfl (c_numbers (by omega) (cv_set (nA hA (Or.inl (by omega))) hw)) ?_
    refine me1 (pc' := 30) (L' := [(5, ii (vq w : Int)), (4, .ref q), (0, .ref o), (1, .ref p), (2, .ref q), (3, ii ar)]) (S' := []) dm_X5_askFlat_28 rfl rfl rfl rfl ?_
    refine me0 (pc' := 31) (S' := [ii 0]) dm_X5_askFlat_30 rfl rfl rfl rfl ?_
    refine me1 (pc' := 33) (L' := [(6, ii 0), (5, ii (vq w : Int)), (4, .ref q), (0, .ref o), (1, .ref p), (2, .ref q), (3, ii ar)]) (S' := []) dm_X5_askFlat_31 rfl rfl rfl rfl ?_
    have lp33 : ∀ (n33 : Nat) (k : Nat) (m : Nat) (N : Nat → Int64) (f : Int), vq w - k = n33 → (k ≤ vq w) → (m ≤ 1000) → (0 ≤ f ∧ f ≤ 6) → (f = flE vb v w w k) → (flN vb v w w m0 N0 k m N) → pgE xt (d - 1) 5 9 false (Option.none : Option Jvm.ClassFile.FieldType) (mj_dec prog_7_method_4_code) 33 [(0, .ref o), (1, .ref p), (2, .ref q), (3, ii ar), (4, .ref q), (5, ii (vq w : Int)), (6, ii (k : Int))] [] (((h).set o (cO 5 [ii vb, ii f, .ref nq, ii sz, ii lv, ii (m : Int), ii vm_, zz rw_, ro, va, ii nu, ii vu])).set nq (cJ 1000 N)) (fun r h' => r = none ∧ (fun h' => ∃ (m : Nat) (N : Nat → Int64), h' = (h.set o (PO vb (flE vb v w w (vq w)) nq (sz + (vsz (e + 1) w : Int)) (max lv (ar + (vlv (e + 1) w : Int))) (m : Int) vm_ (rw_ || decide (0 < vq w ∧ ¬ vk w ≤ 1)) ro va nu vu)).set nq (cJ 1000 N) ∧ m ≤ 1000 ∧ flN vb v w w m0 N0 (vq w) m N) h') := by
      intro n33
      induction n33 using Nat.strongRecOn with
      | ind n33 ih33 =>
        intro k m N f hm33 hk hm1 hfr hfe hN
        refine me1 (pc' := 35) (L' := [(0, .ref o), (1, .ref p), (2, .ref q), (3, ii ar), (4, .ref q), (5, ii (vq w : Int)), (6, ii (k : Int))]) (S' := [ii (k : Int)]) dm_X5_askFlat_33 rfl rfl rfl rfl ?_
        refine me1 (pc' := 37) (L' := [(0, .ref o), (1, .ref p), (2, .ref q), (3, ii ar), (4, .ref q), (5, ii (vq w : Int)), (6, ii (k : Int))]) (S' := [ii (vq w : Int), ii (k : Int)]) dm_X5_askFlat_35 rfl rfl rfl rfl ?_
        refine y_2ge (a := (k : Int)) (b := (vq w : Int)) (t := 127) (pc' := 40) dm_X5_askFlat_37 rfl rfl (by omega) (fun hb2 => ?_) (fun hb2 => ?_)
        · refine me1 (pc' := 128) (L' := [(0, .ref o), (1, .ref p), (2, .ref q), (3, ii ar), (4, .ref q), (5, ii (vq w : Int)), (6, ii (k : Int))]) (S' := [.ref o]) dm_X5_askFlat_127 rfl rfl rfl rfl ?_
          refine me0 (pc' := 129) (S' := [.ref o, .ref o]) dm_X5_askFlat_128 rfl rfl rfl rfl ?_
          refine me3 (pc' := 132) (S' := [ii sz, .ref o]) dm_X5_askFlat_129 (g_get (v := ii sz) (hl_ne (by omega) (hl_set (hl_lt ho))) rfl rfl (by omega)) rfl rfl rfl ?_
          refine me1 (pc' := 134) (L' := [(0, .ref o), (1, .ref p), (2, .ref q), (3, ii ar), (4, .ref q), (5, ii (vq w : Int)), (6, ii (k : Int))]) (S' := [.ref q, ii sz, .ref o]) dm_X5_askFlat_132 rfl rfl rfl rfl ?_
          refine me3 (pc' := 137) (S' := [ii (vsz (e + 1) w : Int), ii sz, .ref o]) dm_X5_askFlat_134 (g_get (v := ii (vsz (e + 1) w : Int)) (hl_ne (by omega) (hl_ne (by omega) hq)) rfl rfl (by omega)) rfl rfl rfl ?_
          refine y_iadd (a := sz) (b := (vsz (e + 1) w : Int)) dm_X5_askFlat_137 (pc' := 138) rfl ?_
          refine me3 (pc' := 141) (S' := []) (h1 := (((h).set o (cO 5 [ii vb, ii f, .ref nq, ii sz, ii lv, ii (m : Int), ii vm_, zz rw_, ro, va, ii nu, ii vu])).set nq (cJ 1000 N)).set o (cO 5 [ii vb, ii f, .ref nq, ii (sz + (vsz (e + 1) w : Int)), ii lv, ii (m : Int), ii vm_, zz rw_, ro, va, ii nu, ii vu])) dm_X5_askFlat_138 (g_put (fs' := [ii vb, ii f, .ref nq, ii (sz + (vsz (e + 1) w : Int)), ii lv, ii (m : Int), ii vm_, zz rw_, ro, va, ii nu, ii vu]) (hl_ne (by omega) (hl_set (hl_lt ho))) rfl rfl rfl (by simp) rfl (by decide) (fun z => by cases z) (by omega)) rfl rfl rfl ?_
          refine me1 (pc' := 142) (L' := [(0, .ref o), (1, .ref p), (2, .ref q), (3, ii ar), (4, .ref q), (5, ii (vq w : Int)), (6, ii (k : Int))]) (S' := [.ref o]) dm_X5_askFlat_141 rfl rfl rfl rfl ?_
          refine me1 (pc' := 143) (L' := [(0, .ref o), (1, .ref p), (2, .ref q), (3, ii ar), (4, .ref q), (5, ii (vq w : Int)), (6, ii (k : Int))]) (S' := [.ref o, .ref o]) dm_X5_askFlat_142 rfl rfl rfl rfl ?_
          refine me3 (pc' := 146) (S' := [ii lv, .ref o]) dm_X5_askFlat_143 (g_get (v := ii lv) (hl_set (hl_lt (hl_ne (by omega) (hl_set (hl_lt ho))))) rfl rfl (by omega)) rfl rfl rfl ?_
          refine me1 (pc' := 147) (L' := [(0, .ref o), (1, .ref p), (2, .ref q), (3, ii ar), (4, .ref q), (5, ii (vq w : Int)), (6, ii (k : Int))]) (S' := [ii ar, ii lv, .ref o]) dm_X5_askFlat_146 rfl rfl rfl rfl ?_
          refine me1 (pc' := 149) (L' := [(0, .ref o), (1, .ref p), (2, .ref q), (3, ii ar), (4, .ref q), (5, ii (vq w : Int)), (6, ii (k : Int))]) (S' := [.ref q, ii ar, ii lv, .ref o]) dm_X5_askFlat_147 rfl rfl rfl rfl ?_
          refine me3 (pc' := 152) (S' := [ii (vlv (e + 1) w : Int), ii ar, ii lv, .ref o]) dm_X5_askFlat_149 (g_get (v := ii (vlv (e + 1) w : Int)) (hl_ne (by omega) (hl_ne (by omega) (hl_ne (by omega) hq))) rfl rfl (by omega)) rfl rfl rfl ?_
          refine y_iadd (a := ar) (b := (vlv (e + 1) w : Int)) dm_X5_askFlat_152 (pc' := 153) rfl ?_
          refine y_pr (i := .iadd) (pc' := 156) (S' := [ii (max lv (ar + (vlv (e + 1) w : Int))), .ref o]) dm_X5_askFlat_153 rfl (p_imax (by omega) (by omega) (by omega) (by omega) rfl) (by omega) rfl ?_
          refine me3 (pc' := 159) (S' := []) (h1 := (((h).set o (cO 5 [ii vb, ii f, .ref nq, ii sz, ii lv, ii (m : Int), ii vm_, zz rw_, ro, va, ii nu, ii vu])).set nq (cJ 1000 N)).set o (cO 5 [ii vb, ii f, .ref nq, ii (sz + (vsz (e + 1) w : Int)), ii (max lv (ar + (vlv (e + 1) w : Int))), ii (m : Int), ii vm_, zz rw_, ro, va, ii nu, ii vu])) dm_X5_askFlat_156 (g_put (fs' := [ii vb, ii f, .ref nq, ii (sz + (vsz (e + 1) w : Int)), ii (max lv (ar + (vlv (e + 1) w : Int))), ii (m : Int), ii vm_, zz rw_, ro, va, ii nu, ii vu]) (hl_set (hl_lt (hl_ne (by omega) (hl_set (hl_lt ho))))) rfl (by rw [List.set_set]) rfl (by simp) rfl (by decide) (fun z => by cases z) (by omega)) rfl rfl rfl ?_
          refine me1 (pc' := 160) (L' := [(0, .ref o), (1, .ref p), (2, .ref q), (3, ii ar), (4, .ref q), (5, ii (vq w : Int)), (6, ii (k : Int))]) (S' := [.ref o]) dm_X5_askFlat_159 rfl rfl rfl rfl ?_
          refine me1 (pc' := 161) (L' := [(0, .ref o), (1, .ref p), (2, .ref q), (3, ii ar), (4, .ref q), (5, ii (vq w : Int)), (6, ii (k : Int))]) (S' := [.ref o, .ref o]) dm_X5_askFlat_160 rfl rfl rfl rfl ?_
          refine me3 (pc' := 164) (S' := [zz rw_, .ref o]) dm_X5_askFlat_161 (g_get (v := zz rw_) (hl_set (hl_lt (hl_ne (by omega) (hl_set (hl_lt ho))))) rfl rfl (by omega)) rfl rfl rfl ?_
          refine y_zne (c := rw_) (t := 180) (pc' := 167) dm_X5_askFlat_164 rfl rfl (fun hb3 => ?_) (fun hb3 => ?_)
          · refine me0 (pc' := 181) (S' := [ii 1, .ref o]) dm_X5_askFlat_180 rfl rfl rfl rfl ?_
            refine me2 (pc' := 185) (S' := [ii 1, .ref o]) dm_X5_askFlat_181 rfl rfl rfl ?_
            refine me3 (pc' := 188) (S' := []) (h1 := (((h).set o (cO 5 [ii vb, ii f, .ref nq, ii sz, ii lv, ii (m : Int), ii vm_, zz rw_, ro, va, ii nu, ii vu])).set nq (cJ 1000 N)).set o (cO 5 [ii vb, ii f, .ref nq, ii (sz + (vsz (e + 1) w : Int)), ii (max lv (ar + (vlv (e + 1) w : Int))), ii (m : Int), ii vm_, ii 1, ro, va, ii nu, ii vu])) dm_X5_askFlat_185 (g_put (fs' := [ii vb, ii f, .ref nq, ii (sz + (vsz (e + 1) w : Int)), ii (max lv (ar + (vlv (e + 1) w : Int))), ii (m : Int), ii vm_, ii 1, ro, va, ii nu, ii vu]) (hl_set (hl_lt (hl_ne (by omega) (hl_set (hl_lt ho))))) rfl (by rw [List.set_set]) rfl (by simp) rfl (by decide) (fun z => by cases z) (by omega)) rfl rfl rfl ?_
            refine y_ret (r := none) dm_X5_askFlat_188 rfl rfl rfl ?_
            obtain ⟨hE1, hE2⟩ := flN_m hN hk (by first | (exact Or.inl (by omega)) | (exact Or.inr (by rw [← hfe]; omega)))
            refine ⟨rfl, m, N, ?_, hm1, hE2⟩
            have hr : (rw_ || decide (0 < vq w ∧ ¬ vk w ≤ 1)) = true := by first | (rw [(by assumption : rw_ = true)]; rfl) | (rw [(by assumption : rw_ = false), Bool.false_or]; exact decide_eq_true (by omega))
            rw [hr, ← hE1, ← hfe, setoq (by omega)]; unfold PO; rw [zzT]
          · refine me1 (pc' := 169) (L' := [(0, .ref o), (1, .ref p), (2, .ref q), (3, ii ar), (4, .ref q), (5, ii (vq w : Int)), (6, ii (k : Int))]) (S' := [ii (vq w : Int), .ref o]) dm_X5_askFlat_167 rfl rfl rfl rfl ?_
            refine y_1le (a := (vq w : Int)) (t := 184) (pc' := 172) dm_X5_askFlat_169 rfl rfl (by omega) (fun hb4 => ?_) (fun hb4 => ?_)
            · refine me0 (pc' := 185) (S' := [ii 0, .ref o]) dm_X5_askFlat_184 rfl rfl rfl rfl ?_
              refine me3 (pc' := 188) (S' := []) (h1 := (((h).set o (cO 5 [ii vb, ii f, .ref nq, ii sz, ii lv, ii (m : Int), ii vm_, zz rw_, ro, va, ii nu, ii vu])).set nq (cJ 1000 N)).set o (cO 5 [ii vb, ii f, .ref nq, ii (sz + (vsz (e + 1) w : Int)), ii (max lv (ar + (vlv (e + 1) w : Int))), ii (m : Int), ii vm_, ii 0, ro, va, ii nu, ii vu])) dm_X5_askFlat_185 (g_put (fs' := [ii vb, ii f, .ref nq, ii (sz + (vsz (e + 1) w : Int)), ii (max lv (ar + (vlv (e + 1) w : Int))), ii (m : Int), ii vm_, ii 0, ro, va, ii nu, ii vu]) (hl_set (hl_lt (hl_ne (by omega) (hl_set (hl_lt ho))))) rfl (by rw [List.set_set]) rfl (by simp) rfl (by decide) (fun z => by cases z) (by omega)) rfl rfl rfl ?_
              refine y_ret (r := none) dm_X5_askFlat_188 rfl rfl rfl ?_
              obtain ⟨hE1, hE2⟩ := flN_m hN hk (by first | (exact Or.inl (by omega)) | (exact Or.inr (by rw [← hfe]; omega)))
              refine ⟨rfl, m, N, ?_, hm1, hE2⟩
              have hr : (rw_ || decide (0 < vq w ∧ ¬ vk w ≤ 1)) = false := by first | (rw [(by assumption : rw_ = true)]; rfl) | (rw [(by assumption : rw_ = false), Bool.false_or]; exact decide_eq_false (by omega))
              rw [hr, ← hE1, ← hfe, setoq (by omega)]; unfold PO; rw [zzF]
            · refine me1 (pc' := 174) (L' := [(0, .ref o), (1, .ref p), (2, .ref q), (3, ii ar), (4, .ref q), (5, ii (vq w : Int)), (6, ii (k : Int))]) (S' := [.ref q, .ref o]) dm_X5_askFlat_172 rfl rfl rfl rfl ?_
              refine x_cp (pc' := 177) (v := zz (decide (vk w ≤ 1))) (rest := [.ref o]) dm_X5_askFlat_174 rfl (g_inv (As := []) (S := [.ref o]) (hl_ne (by omega) (hl_ne (by omega) (hl_ne (by omega) hq))) rfl rfl rfl (by omega)) rfl rfl rfl (c_isOne (by omega) (cv_set (nA hA (Or.inl (by omega))) (cv_set (nA hA (Or.inl (by omega))) (cv_set (nA hA (Or.inl (by omega))) hw)))) ?_
              refine y_zne (c := decide (vk w ≤ 1)) (t := 184) (pc' := 180) dm_X5_askFlat_177 rfl rfl (fun hb5 => ?_) (fun hb5 => ?_)
              · replace hb5 := dT hb5
                refine me0 (pc' := 185) (S' := [ii 0, .ref o]) dm_X5_askFlat_184 rfl rfl rfl rfl ?_
                refine me3 (pc' := 188) (S' := []) (h1 := (((h).set o (cO 5 [ii vb, ii f, .ref nq, ii sz, ii lv, ii (m : Int), ii vm_, zz rw_, ro, va, ii nu, ii vu])).set nq (cJ 1000 N)).set o (cO 5 [ii vb, ii f, .ref nq, ii (sz + (vsz (e + 1) w : Int)), ii (max lv (ar + (vlv (e + 1) w : Int))), ii (m : Int), ii vm_, ii 0, ro, va, ii nu, ii vu])) dm_X5_askFlat_185 (g_put (fs' := [ii vb, ii f, .ref nq, ii (sz + (vsz (e + 1) w : Int)), ii (max lv (ar + (vlv (e + 1) w : Int))), ii (m : Int), ii vm_, ii 0, ro, va, ii nu, ii vu]) (hl_set (hl_lt (hl_ne (by omega) (hl_set (hl_lt ho))))) rfl (by rw [List.set_set]) rfl (by simp) rfl (by decide) (fun z => by cases z) (by omega)) rfl rfl rfl ?_
                refine y_ret (r := none) dm_X5_askFlat_188 rfl rfl rfl ?_
                obtain ⟨hE1, hE2⟩ := flN_m hN hk (by first | (exact Or.inl (by omega)) | (exact Or.inr (by rw [← hfe]; omega)))
                refine ⟨rfl, m, N, ?_, hm1, hE2⟩
                have hr : (rw_ || decide (0 < vq w ∧ ¬ vk w ≤ 1)) = false := by first | (rw [(by assumption : rw_ = true)]; rfl) | (rw [(by assumption : rw_ = false), Bool.false_or]; exact decide_eq_false (by omega))
                rw [hr, ← hE1, ← hfe, setoq (by omega)]; unfold PO; rw [zzF]
              · replace hb5 := dF hb5
                refine me0 (pc' := 181) (S' := [ii 1, .ref o]) dm_X5_askFlat_180 rfl rfl rfl rfl ?_
                refine me2 (pc' := 185) (S' := [ii 1, .ref o]) dm_X5_askFlat_181 rfl rfl rfl ?_
                refine me3 (pc' := 188) (S' := []) (h1 := (((h).set o (cO 5 [ii vb, ii f, .ref nq, ii sz, ii lv, ii (m : Int), ii vm_, zz rw_, ro, va, ii nu, ii vu])).set nq (cJ 1000 N)).set o (cO 5 [ii vb, ii f, .ref nq, ii (sz + (vsz (e + 1) w : Int)), ii (max lv (ar + (vlv (e + 1) w : Int))), ii (m : Int), ii vm_, ii 1, ro, va, ii nu, ii vu])) dm_X5_askFlat_185 (g_put (fs' := [ii vb, ii f, .ref nq, ii (sz + (vsz (e + 1) w : Int)), ii (max lv (ar + (vlv (e + 1) w : Int))), ii (m : Int), ii vm_, ii 1, ro, va, ii nu, ii vu]) (hl_set (hl_lt (hl_ne (by omega) (hl_set (hl_lt ho))))) rfl (by rw [List.set_set]) rfl (by simp) rfl (by decide) (fun z => by cases z) (by omega)) rfl rfl rfl ?_
                refine y_ret (r := none) dm_X5_askFlat_188 rfl rfl rfl ?_
                obtain ⟨hE1, hE2⟩ := flN_m hN hk (by first | (exact Or.inl (by omega)) | (exact Or.inr (by rw [← hfe]; omega)))
                refine ⟨rfl, m, N, ?_, hm1, hE2⟩
                have hr : (rw_ || decide (0 < vq w ∧ ¬ vk w ≤ 1)) = true := by first | (rw [(by assumption : rw_ = true)]; rfl) | (rw [(by assumption : rw_ = false), Bool.false_or]; exact decide_eq_true (by omega))
                rw [hr, ← hE1, ← hfe, setoq (by omega)]; unfold PO; rw [zzT]
        · refine me1 (pc' := 41) (L' := [(0, .ref o), (1, .ref p), (2, .ref q), (3, ii ar), (4, .ref q), (5, ii (vq w : Int)), (6, ii (k : Int))]) (S' := [.ref o]) dm_X5_askFlat_40 rfl rfl rfl rfl ?_
          refine me3 (pc' := 44) (S' := [ii f]) dm_X5_askFlat_41 (g_get (v := ii f) (hl_ne (by omega) (hl_set (hl_lt ho))) rfl rfl (by omega)) rfl rfl rfl ?_
          refine y_1ne (a := f) (t := 127) (pc' := 47) dm_X5_askFlat_44 rfl rfl (by omega) (fun hb6 => ?_) (fun hb6 => ?_)
          · refine me1 (pc' := 128) (L' := [(0, .ref o), (1, .ref p), (2, .ref q), (3, ii ar), (4, .ref q), (5, ii (vq w : Int)), (6, ii (k : Int))]) (S' := [.ref o]) dm_X5_askFlat_127 rfl rfl rfl rfl ?_
            refine me0 (pc' := 129) (S' := [.ref o, .ref o]) dm_X5_askFlat_128 rfl rfl rfl rfl ?_
            refine me3 (pc' := 132) (S' := [ii sz, .ref o]) dm_X5_askFlat_129 (g_get (v := ii sz) (hl_ne (by omega) (hl_set (hl_lt ho))) rfl rfl (by omega)) rfl rfl rfl ?_
            refine me1 (pc' := 134) (L' := [(0, .ref o), (1, .ref p), (2, .ref q), (3, ii ar), (4, .ref q), (5, ii (vq w : Int)), (6, ii (k : Int))]) (S' := [.ref q, ii sz, .ref o]) dm_X5_askFlat_132 rfl rfl rfl rfl ?_
            refine me3 (pc' := 137) (S' := [ii (vsz (e + 1) w : Int), ii sz, .ref o]) dm_X5_askFlat_134 (g_get (v := ii (vsz (e + 1) w : Int)) (hl_ne (by omega) (hl_ne (by omega) hq)) rfl rfl (by omega)) rfl rfl rfl ?_
            refine y_iadd (a := sz) (b := (vsz (e + 1) w : Int)) dm_X5_askFlat_137 (pc' := 138) rfl ?_
            refine me3 (pc' := 141) (S' := []) (h1 := (((h).set o (cO 5 [ii vb, ii f, .ref nq, ii sz, ii lv, ii (m : Int), ii vm_, zz rw_, ro, va, ii nu, ii vu])).set nq (cJ 1000 N)).set o (cO 5 [ii vb, ii f, .ref nq, ii (sz + (vsz (e + 1) w : Int)), ii lv, ii (m : Int), ii vm_, zz rw_, ro, va, ii nu, ii vu])) dm_X5_askFlat_138 (g_put (fs' := [ii vb, ii f, .ref nq, ii (sz + (vsz (e + 1) w : Int)), ii lv, ii (m : Int), ii vm_, zz rw_, ro, va, ii nu, ii vu]) (hl_ne (by omega) (hl_set (hl_lt ho))) rfl rfl rfl (by simp) rfl (by decide) (fun z => by cases z) (by omega)) rfl rfl rfl ?_
            refine me1 (pc' := 142) (L' := [(0, .ref o), (1, .ref p), (2, .ref q), (3, ii ar), (4, .ref q), (5, ii (vq w : Int)), (6, ii (k : Int))]) (S' := [.ref o]) dm_X5_askFlat_141 rfl rfl rfl rfl ?_
            refine me1 (pc' := 143) (L' := [(0, .ref o), (1, .ref p), (2, .ref q), (3, ii ar), (4, .ref q), (5, ii (vq w : Int)), (6, ii (k : Int))]) (S' := [.ref o, .ref o]) dm_X5_askFlat_142 rfl rfl rfl rfl ?_
            refine me3 (pc' := 146) (S' := [ii lv, .ref o]) dm_X5_askFlat_143 (g_get (v := ii lv) (hl_set (hl_lt (hl_ne (by omega) (hl_set (hl_lt ho))))) rfl rfl (by omega)) rfl rfl rfl ?_
            refine me1 (pc' := 147) (L' := [(0, .ref o), (1, .ref p), (2, .ref q), (3, ii ar), (4, .ref q), (5, ii (vq w : Int)), (6, ii (k : Int))]) (S' := [ii ar, ii lv, .ref o]) dm_X5_askFlat_146 rfl rfl rfl rfl ?_
            refine me1 (pc' := 149) (L' := [(0, .ref o), (1, .ref p), (2, .ref q), (3, ii ar), (4, .ref q), (5, ii (vq w : Int)), (6, ii (k : Int))]) (S' := [.ref q, ii ar, ii lv, .ref o]) dm_X5_askFlat_147 rfl rfl rfl rfl ?_
            refine me3 (pc' := 152) (S' := [ii (vlv (e + 1) w : Int), ii ar, ii lv, .ref o]) dm_X5_askFlat_149 (g_get (v := ii (vlv (e + 1) w : Int)) (hl_ne (by omega) (hl_ne (by omega) (hl_ne (by omega) hq))) rfl rfl (by omega)) rfl rfl rfl ?_
            refine y_iadd (a := ar) (b := (vlv (e + 1) w : Int)) dm_X5_askFlat_152 (pc' := 153) rfl ?_
            refine y_pr (i := .iadd) (pc' := 156) (S' := [ii (max lv (ar + (vlv (e + 1) w : Int))), .ref o]) dm_X5_askFlat_153 rfl (p_imax (by omega) (by omega) (by omega) (by omega) rfl) (by omega) rfl ?_
            refine me3 (pc' := 159) (S' := []) (h1 := (((h).set o (cO 5 [ii vb, ii f, .ref nq, ii sz, ii lv, ii (m : Int), ii vm_, zz rw_, ro, va, ii nu, ii vu])).set nq (cJ 1000 N)).set o (cO 5 [ii vb, ii f, .ref nq, ii (sz + (vsz (e + 1) w : Int)), ii (max lv (ar + (vlv (e + 1) w : Int))), ii (m : Int), ii vm_, zz rw_, ro, va, ii nu, ii vu])) dm_X5_askFlat_156 (g_put (fs' := [ii vb, ii f, .ref nq, ii (sz + (vsz (e + 1) w : Int)), ii (max lv (ar + (vlv (e + 1) w : Int))), ii (m : Int), ii vm_, zz rw_, ro, va, ii nu, ii vu]) (hl_set (hl_lt (hl_ne (by omega) (hl_set (hl_lt ho))))) rfl (by rw [List.set_set]) rfl (by simp) rfl (by decide) (fun z => by cases z) (by omega)) rfl rfl rfl ?_
            refine me1 (pc' := 160) (L' := [(0, .ref o), (1, .ref p), (2, .ref q), (3, ii ar), (4, .ref q), (5, ii (vq w : Int)), (6, ii (k : Int))]) (S' := [.ref o]) dm_X5_askFlat_159 rfl rfl rfl rfl ?_
            refine me1 (pc' := 161) (L' := [(0, .ref o), (1, .ref p), (2, .ref q), (3, ii ar), (4, .ref q), (5, ii (vq w : Int)), (6, ii (k : Int))]) (S' := [.ref o, .ref o]) dm_X5_askFlat_160 rfl rfl rfl rfl ?_
            refine me3 (pc' := 164) (S' := [zz rw_, .ref o]) dm_X5_askFlat_161 (g_get (v := zz rw_) (hl_set (hl_lt (hl_ne (by omega) (hl_set (hl_lt ho))))) rfl rfl (by omega)) rfl rfl rfl ?_
            refine y_zne (c := rw_) (t := 180) (pc' := 167) dm_X5_askFlat_164 rfl rfl (fun hb7 => ?_) (fun hb7 => ?_)
            · refine me0 (pc' := 181) (S' := [ii 1, .ref o]) dm_X5_askFlat_180 rfl rfl rfl rfl ?_
              refine me2 (pc' := 185) (S' := [ii 1, .ref o]) dm_X5_askFlat_181 rfl rfl rfl ?_
              refine me3 (pc' := 188) (S' := []) (h1 := (((h).set o (cO 5 [ii vb, ii f, .ref nq, ii sz, ii lv, ii (m : Int), ii vm_, zz rw_, ro, va, ii nu, ii vu])).set nq (cJ 1000 N)).set o (cO 5 [ii vb, ii f, .ref nq, ii (sz + (vsz (e + 1) w : Int)), ii (max lv (ar + (vlv (e + 1) w : Int))), ii (m : Int), ii vm_, ii 1, ro, va, ii nu, ii vu])) dm_X5_askFlat_185 (g_put (fs' := [ii vb, ii f, .ref nq, ii (sz + (vsz (e + 1) w : Int)), ii (max lv (ar + (vlv (e + 1) w : Int))), ii (m : Int), ii vm_, ii 1, ro, va, ii nu, ii vu]) (hl_set (hl_lt (hl_ne (by omega) (hl_set (hl_lt ho))))) rfl (by rw [List.set_set]) rfl (by simp) rfl (by decide) (fun z => by cases z) (by omega)) rfl rfl rfl ?_
              refine y_ret (r := none) dm_X5_askFlat_188 rfl rfl rfl ?_
              obtain ⟨hE1, hE2⟩ := flN_m hN hk (by first | (exact Or.inl (by omega)) | (exact Or.inr (by rw [← hfe]; omega)))
              refine ⟨rfl, m, N, ?_, hm1, hE2⟩
              have hr : (rw_ || decide (0 < vq w ∧ ¬ vk w ≤ 1)) = true := by first | (rw [(by assumption : rw_ = true)]; rfl) | (rw [(by assumption : rw_ = false), Bool.false_or]; exact decide_eq_true (by omega))
              rw [hr, ← hE1, ← hfe, setoq (by omega)]; unfold PO; rw [zzT]
            · refine me1 (pc' := 169) (L' := [(0, .ref o), (1, .ref p), (2, .ref q), (3, ii ar), (4, .ref q), (5, ii (vq w : Int)), (6, ii (k : Int))]) (S' := [ii (vq w : Int), .ref o]) dm_X5_askFlat_167 rfl rfl rfl rfl ?_
              refine y_1le (a := (vq w : Int)) (t := 184) (pc' := 172) dm_X5_askFlat_169 rfl rfl (by omega) (fun hb8 => ?_) (fun hb8 => ?_)
              · refine me0 (pc' := 185) (S' := [ii 0, .ref o]) dm_X5_askFlat_184 rfl rfl rfl rfl ?_
                refine me3 (pc' := 188) (S' := []) (h1 := (((h).set o (cO 5 [ii vb, ii f, .ref nq, ii sz, ii lv, ii (m : Int), ii vm_, zz rw_, ro, va, ii nu, ii vu])).set nq (cJ 1000 N)).set o (cO 5 [ii vb, ii f, .ref nq, ii (sz + (vsz (e + 1) w : Int)), ii (max lv (ar + (vlv (e + 1) w : Int))), ii (m : Int), ii vm_, ii 0, ro, va, ii nu, ii vu])) dm_X5_askFlat_185 (g_put (fs' := [ii vb, ii f, .ref nq, ii (sz + (vsz (e + 1) w : Int)), ii (max lv (ar + (vlv (e + 1) w : Int))), ii (m : Int), ii vm_, ii 0, ro, va, ii nu, ii vu]) (hl_set (hl_lt (hl_ne (by omega) (hl_set (hl_lt ho))))) rfl (by rw [List.set_set]) rfl (by simp) rfl (by decide) (fun z => by cases z) (by omega)) rfl rfl rfl ?_
                refine y_ret (r := none) dm_X5_askFlat_188 rfl rfl rfl ?_
                obtain ⟨hE1, hE2⟩ := flN_m hN hk (by first | (exact Or.inl (by omega)) | (exact Or.inr (by rw [← hfe]; omega)))
                refine ⟨rfl, m, N, ?_, hm1, hE2⟩
                have hr : (rw_ || decide (0 < vq w ∧ ¬ vk w ≤ 1)) = false := by first | (rw [(by assumption : rw_ = true)]; rfl) | (rw [(by assumption : rw_ = false), Bool.false_or]; exact decide_eq_false (by omega))
                rw [hr, ← hE1, ← hfe, setoq (by omega)]; unfold PO; rw [zzF]
              · refine me1 (pc' := 174) (L' := [(0, .ref o), (1, .ref p), (2, .ref q), (3, ii ar), (4, .ref q), (5, ii (vq w : Int)), (6, ii (k : Int))]) (S' := [.ref q, .ref o]) dm_X5_askFlat_172 rfl rfl rfl rfl ?_
                refine x_cp (pc' := 177) (v := zz (decide (vk w ≤ 1))) (rest := [.ref o]) dm_X5_askFlat_174 rfl (g_inv (As := []) (S := [.ref o]) (hl_ne (by omega) (hl_ne (by omega) (hl_ne (by omega) hq))) rfl rfl rfl (by omega)) rfl rfl rfl (c_isOne (by omega) (cv_set (nA hA (Or.inl (by omega))) (cv_set (nA hA (Or.inl (by omega))) (cv_set (nA hA (Or.inl (by omega))) hw)))) ?_
                refine y_zne (c := decide (vk w ≤ 1)) (t := 184) (pc' := 180) dm_X5_askFlat_177 rfl rfl (fun hb9 => ?_) (fun hb9 => ?_)
                · replace hb9 := dT hb9
                  refine me0 (pc' := 185) (S' := [ii 0, .ref o]) dm_X5_askFlat_184 rfl rfl rfl rfl ?_
                  refine me3 (pc' := 188) (S' := []) (h1 := (((h).set o (cO 5 [ii vb, ii f, .ref nq, ii sz, ii lv, ii (m : Int), ii vm_, zz rw_, ro, va, ii nu, ii vu])).set nq (cJ 1000 N)).set o (cO 5 [ii vb, ii f, .ref nq, ii (sz + (vsz (e + 1) w : Int)), ii (max lv (ar + (vlv (e + 1) w : Int))), ii (m : Int), ii vm_, ii 0, ro, va, ii nu, ii vu])) dm_X5_askFlat_185 (g_put (fs' := [ii vb, ii f, .ref nq, ii (sz + (vsz (e + 1) w : Int)), ii (max lv (ar + (vlv (e + 1) w : Int))), ii (m : Int), ii vm_, ii 0, ro, va, ii nu, ii vu]) (hl_set (hl_lt (hl_ne (by omega) (hl_set (hl_lt ho))))) rfl (by rw [List.set_set]) rfl (by simp) rfl (by decide) (fun z => by cases z) (by omega)) rfl rfl rfl ?_
                  refine y_ret (r := none) dm_X5_askFlat_188 rfl rfl rfl ?_
                  obtain ⟨hE1, hE2⟩ := flN_m hN hk (by first | (exact Or.inl (by omega)) | (exact Or.inr (by rw [← hfe]; omega)))
                  refine ⟨rfl, m, N, ?_, hm1, hE2⟩
                  have hr : (rw_ || decide (0 < vq w ∧ ¬ vk w ≤ 1)) = false := by first | (rw [(by assumption : rw_ = true)]; rfl) | (rw [(by assumption : rw_ = false), Bool.false_or]; exact decide_eq_false (by omega))
                  rw [hr, ← hE1, ← hfe, setoq (by omega)]; unfold PO; rw [zzF]
                · replace hb9 := dF hb9
                  refine me0 (pc' := 181) (S' := [ii 1, .ref o]) dm_X5_askFlat_180 rfl rfl rfl rfl ?_
                  refine me2 (pc' := 185) (S' := [ii 1, .ref o]) dm_X5_askFlat_181 rfl rfl rfl ?_
                  refine me3 (pc' := 188) (S' := []) (h1 := (((h).set o (cO 5 [ii vb, ii f, .ref nq, ii sz, ii lv, ii (m : Int), ii vm_, zz rw_, ro, va, ii nu, ii vu])).set nq (cJ 1000 N)).set o (cO 5 [ii vb, ii f, .ref nq, ii (sz + (vsz (e + 1) w : Int)), ii (max lv (ar + (vlv (e + 1) w : Int))), ii (m : Int), ii vm_, ii 1, ro, va, ii nu, ii vu])) dm_X5_askFlat_185 (g_put (fs' := [ii vb, ii f, .ref nq, ii (sz + (vsz (e + 1) w : Int)), ii (max lv (ar + (vlv (e + 1) w : Int))), ii (m : Int), ii vm_, ii 1, ro, va, ii nu, ii vu]) (hl_set (hl_lt (hl_ne (by omega) (hl_set (hl_lt ho))))) rfl (by rw [List.set_set]) rfl (by simp) rfl (by decide) (fun z => by cases z) (by omega)) rfl rfl rfl ?_
                  refine y_ret (r := none) dm_X5_askFlat_188 rfl rfl rfl ?_
                  obtain ⟨hE1, hE2⟩ := flN_m hN hk (by first | (exact Or.inl (by omega)) | (exact Or.inr (by rw [← hfe]; omega)))
                  refine ⟨rfl, m, N, ?_, hm1, hE2⟩
                  have hr : (rw_ || decide (0 < vq w ∧ ¬ vk w ≤ 1)) = true := by first | (rw [(by assumption : rw_ = true)]; rfl) | (rw [(by assumption : rw_ = false), Bool.false_or]; exact decide_eq_true (by omega))
                  rw [hr, ← hE1, ← hfe, setoq (by omega)]; unfold PO; rw [zzT]
          · refine me1 (pc' := 48) (L' := [(0, .ref o), (1, .ref p), (2, .ref q), (3, ii ar), (4, .ref q), (5, ii (vq w : Int)), (6, ii (k : Int))]) (S' := [.ref o]) dm_X5_askFlat_47 rfl rfl rfl rfl ?_
            refine me1 (pc' := 49) (L' := [(0, .ref o), (1, .ref p), (2, .ref q), (3, ii ar), (4, .ref q), (5, ii (vq w : Int)), (6, ii (k : Int))]) (S' := [.ref p, .ref o]) dm_X5_askFlat_48 rfl rfl rfl rfl ?_
            refine me1 (pc' := 50) (L' := [(0, .ref o), (1, .ref p), (2, .ref q), (3, ii ar), (4, .ref q), (5, ii (vq w : Int)), (6, ii (k : Int))]) (S' := [.ref q, .ref p, .ref o]) dm_X5_askFlat_49 rfl rfl rfl rfl ?_
            refine me1 (pc' := 52) (L' := [(0, .ref o), (1, .ref p), (2, .ref q), (3, ii ar), (4, .ref q), (5, ii (vq w : Int)), (6, ii (k : Int))]) (S' := [ii (k : Int), .ref q, .ref p, .ref o]) dm_X5_askFlat_50 rfl rfl rfl rfl ?_
            have hor := outF_r vb (vk v) (vk w) (vnum v (k : Int)) (vnum w (k : Int))
            have hf0 : f = 0 := by omega
            refine x_cv (pc' := 55) (rest := []) dm_X5_askFlat_52 rfl (g_inv (As := [.ref p, .ref q, ii (k : Int)]) (S := []) (hl_ne (by omega) (hl_set (hl_lt ho))) rfl rfl rfl (by omega)) rfl rfl rfl (p_outcome (i := (k : Int)) (o := o) (nq := nq) (vb := vb) hx1 (by omega) (cv_set (nA hA (Or.inl (by omega))) (cv_set (nA hA (Or.inl (by omega))) hv)) (cv_set (nA hA (Or.inl (by omega))) (cv_set (nA hA (Or.inl (by omega))) hw)) (by omega) (by omega) (show (((h).set o (cO 5 [ii vb, ii f, .ref nq, ii sz, ii lv, ii (m : Int), ii vm_, zz rw_, ro, va, ii nu, ii vu])).set nq (cJ 1000 N))[o]? = some (PO vb 0 nq sz lv (m : Int) vm_ rw_ ro va nu vu) by rw [hf0]; exact hl_ne (by omega) (hl_set (hl_lt ho))) hvb) ?_
            rintro x h2 hres
            obtain ⟨rfl, rfl⟩ := hres
            refine me1 (pc' := 57) (L' := [(7, .long ((outF vb (vk v) (vk w) (vnum v (k : Int)) (vnum w (k : Int))).2)), (0, .ref o), (1, .ref p), (2, .ref q), (3, ii ar), (4, .ref q), (5, ii (vq w : Int)), (6, ii (k : Int))]) (S' := []) dm_X5_askFlat_55 rfl rfl rfl rfl ?_
            refine me1 (pc' := 58) (L' := [(7, .long ((outF vb (vk v) (vk w) (vnum v (k : Int)) (vnum w (k : Int))).2)), (0, .ref o), (1, .ref p), (2, .ref q), (3, ii ar), (4, .ref q), (5, ii (vq w : Int)), (6, ii (k : Int))]) (S' := [.ref o]) dm_X5_askFlat_57 rfl rfl rfl rfl ?_
            refine me3 (pc' := 61) (S' := [ii ((outF vb (vk v) (vk w) (vnum v (k : Int)) (vnum w (k : Int))).1)]) dm_X5_askFlat_58 (g_get (v := ii ((outF vb (vk v) (vk w) (vnum v (k : Int)) (vnum w (k : Int))).1)) (hl_set (hl_lt (hl_ne (by omega) (hl_set (hl_lt ho))))) rfl rfl (by omega)) rfl rfl rfl ?_
            refine y_1ne (a := (outF vb (vk v) (vk w) (vnum v (k : Int)) (vnum w (k : Int))).1) (t := 88) (pc' := 64) dm_X5_askFlat_61 rfl rfl (by omega) (fun hb10 => ?_) (fun hb10 => ?_)
            · refine pg_cast (h2 := ((h).set o (cO 5 [ii vb, ii ((outF vb (vk v) (vk w) (vnum v (k : Int)) (vnum w (k : Int))).1), .ref nq, ii sz, ii lv, ii (m : Int), ii vm_, zz rw_, ro, va, ii nu, ii vu])).set nq (cJ 1000 N)) (setoq (by omega)) ?_
              refine me1 (pc' := 89) (L' := [(7, .long ((outF vb (vk v) (vk w) (vnum v (k : Int)) (vnum w (k : Int))).2)), (0, .ref o), (1, .ref p), (2, .ref q), (3, ii ar), (4, .ref q), (5, ii (vq w : Int)), (6, ii (k : Int))]) (S' := [.ref o]) dm_X5_askFlat_88 rfl rfl rfl rfl ?_
              refine me3 (pc' := 92) (S' := [ii (m : Int)]) dm_X5_askFlat_89 (g_get (v := ii (m : Int)) (hl_ne (by omega) (hl_set (hl_lt ho))) rfl rfl (by omega)) rfl rfl rfl ?_
              refine me1 (pc' := 93) (L' := [(7, .long ((outF vb (vk v) (vk w) (vnum v (k : Int)) (vnum w (k : Int))).2)), (0, .ref o), (1, .ref p), (2, .ref q), (3, ii ar), (4, .ref q), (5, ii (vq w : Int)), (6, ii (k : Int))]) (S' := [.ref o, ii (m : Int)]) dm_X5_askFlat_92 rfl rfl rfl rfl ?_
              refine me3 (pc' := 96) (S' := [.ref nq, ii (m : Int)]) dm_X5_askFlat_93 (g_get (v := .ref nq) (hl_ne (by omega) (hl_set (hl_lt ho))) rfl rfl (by omega)) rfl rfl rfl ?_
              refine me3 (pc' := 97) (S' := [ii 1000, ii (m : Int)]) dm_X5_askFlat_96 (yh_len (n := 1000) rfl (hl_set (hl_lt (hl_ne (by omega) hnq))) (by omega)) rfl rfl rfl ?_
              refine y_2ge (a := (m : Int)) (b := 1000) (t := 121) (pc' := 100) dm_X5_askFlat_97 rfl rfl (by omega) (fun hb11 => ?_) (fun hb11 => ?_)
              · have hT : (outT vb v w w k).1 = (outF vb (vk v) (vk w) (vnum v (k : Int)) (vnum w (k : Int))).1 := outT_1 (fun z => by obtain ⟨z1, z2, z3⟩ := z; first | (have z4 : fitsB (outF vb (vk v) (vk w) (vnum v (k : Int)) (vnum w (k : Int))).2 = true := (by assumption); rw [z3] at z4; cases z4) | omega)
                refine y_iinc (pc' := 124) (L' := [(6, ii ((k : Int) + 1)), (7, .long ((outF vb (vk v) (vk w) (vnum v (k : Int)) (vnum w (k : Int))).2)), (0, .ref o), (1, .ref p), (2, .ref q), (3, ii ar), (4, .ref q), (5, ii (vq w : Int))]) dm_X5_askFlat_121 (y_incp (a := (k : Int)) (c := 1) rfl rfl (by decide)) rfl ?_
                refine me2 (pc' := 33) (S' := []) dm_X5_askFlat_124 rfl rfl rfl ?_
                refine pg_cast (h2 := ((h).set o (cO 5 [ii vb, ii ((outT vb v w w k).1), .ref nq, ii sz, ii lv, ii (m : Int), ii vm_, zz rw_, ro, va, ii nu, ii vu])).set nq (cJ 1000 N)) (by rw [hT]) ?_
                exact pg_sub (L := [(0, .ref o), (1, .ref p), (2, .ref q), (3, ii ar), (4, .ref q), (5, ii (vq w : Int)), (6, ii ((k + 1) : Int))]) rfl rfl rfl (ih33 (vq w - (k + 1)) (by omega) (k + 1) m N ((outT vb v w w k).1) rfl (by omega) (by omega) (by rw [hT]; omega) (by rw [flE_s (by rw [← hfe]; omega)]) (flN_t hN (by rw [← hfe]; omega) (by omega)))
              · refine me1 (pc' := 101) (L' := [(7, .long ((outF vb (vk v) (vk w) (vnum v (k : Int)) (vnum w (k : Int))).2)), (0, .ref o), (1, .ref p), (2, .ref q), (3, ii ar), (4, .ref q), (5, ii (vq w : Int)), (6, ii (k : Int))]) (S' := [.ref o]) dm_X5_askFlat_100 rfl rfl rfl rfl ?_
                refine me3 (pc' := 104) (S' := [.ref nq]) dm_X5_askFlat_101 (g_get (v := .ref nq) (hl_ne (by omega) (hl_set (hl_lt ho))) rfl rfl (by omega)) rfl rfl rfl ?_
                refine me1 (pc' := 105) (L' := [(7, .long ((outF vb (vk v) (vk w) (vnum v (k : Int)) (vnum w (k : Int))).2)), (0, .ref o), (1, .ref p), (2, .ref q), (3, ii ar), (4, .ref q), (5, ii (vq w : Int)), (6, ii (k : Int))]) (S' := [.ref o, .ref nq]) dm_X5_askFlat_104 rfl rfl rfl rfl ?_
                refine me3 (pc' := 108) (S' := [ii (m : Int), .ref nq]) dm_X5_askFlat_105 (g_get (v := ii (m : Int)) (hl_ne (by omega) (hl_set (hl_lt ho))) rfl rfl (by omega)) rfl rfl rfl ?_
                refine me1 (pc' := 110) (L' := [(7, .long ((outF vb (vk v) (vk w) (vnum v (k : Int)) (vnum w (k : Int))).2)), (0, .ref o), (1, .ref p), (2, .ref q), (3, ii ar), (4, .ref q), (5, ii (vq w : Int)), (6, ii (k : Int))]) (S' := [.long ((outF vb (vk v) (vk w) (vnum v (k : Int)) (vnum w (k : Int))).2), ii (m : Int), .ref nq]) dm_X5_askFlat_108 rfl rfl rfl rfl ?_
                refine me3 (pc' := 111) (S' := []) (h1 := ((h).set o (cO 5 [ii vb, ii ((outF vb (vk v) (vk w) (vnum v (k : Int)) (vnum w (k : Int))).1), .ref nq, ii sz, ii lv, ii (m : Int), ii vm_, zz rw_, ro, va, ii nu, ii vu])).set nq (cJ 1000 (va_up N m ((outF vb (vk v) (vk w) (vnum v (k : Int)) (vnum w (k : Int))).2)))) dm_X5_askFlat_110 (y_hs (yh_last (j := (m : Int)) (hl_set (hl_lt (hl_ne (by omega) hnq))) (by omega) (by omega) (by omega) (by omega)) (by rw [show (m : Int).toNat = m from rfl]; rw [List.set_set])) rfl rfl rfl ?_
                refine me1 (pc' := 112) (L' := [(7, .long ((outF vb (vk v) (vk w) (vnum v (k : Int)) (vnum w (k : Int))).2)), (0, .ref o), (1, .ref p), (2, .ref q), (3, ii ar), (4, .ref q), (5, ii (vq w : Int)), (6, ii (k : Int))]) (S' := [.ref o]) dm_X5_askFlat_111 rfl rfl rfl rfl ?_
                refine me0 (pc' := 113) (S' := [.ref o, .ref o]) dm_X5_askFlat_112 rfl rfl rfl rfl ?_
                refine me3 (pc' := 116) (S' := [ii (m : Int), .ref o]) dm_X5_askFlat_113 (g_get (v := ii (m : Int)) (hl_ne (by omega) (hl_set (hl_lt ho))) rfl rfl (by omega)) rfl rfl rfl ?_
                refine me0 (pc' := 117) (S' := [ii 1, ii (m : Int), .ref o]) dm_X5_askFlat_116 rfl rfl rfl rfl ?_
                refine y_iadd (a := (m : Int)) (b := 1) dm_X5_askFlat_117 (pc' := 118) rfl ?_
                refine me3 (pc' := 121) (S' := []) (h1 := (((h).set o (cO 5 [ii vb, ii ((outF vb (vk v) (vk w) (vnum v (k : Int)) (vnum w (k : Int))).1), .ref nq, ii sz, ii lv, ii (m : Int), ii vm_, zz rw_, ro, va, ii nu, ii vu])).set nq (cJ 1000 (va_up N m ((outF vb (vk v) (vk w) (vnum v (k : Int)) (vnum w (k : Int))).2)))).set o (cO 5 [ii vb, ii ((outF vb (vk v) (vk w) (vnum v (k : Int)) (vnum w (k : Int))).1), .ref nq, ii sz, ii lv, ii ((m : Int) + 1), ii vm_, zz rw_, ro, va, ii nu, ii vu])) dm_X5_askFlat_118 (g_put (fs' := [ii vb, ii ((outF vb (vk v) (vk w) (vnum v (k : Int)) (vnum w (k : Int))).1), .ref nq, ii sz, ii lv, ii ((m : Int) + 1), ii vm_, zz rw_, ro, va, ii nu, ii vu]) (hl_ne (by omega) (hl_set (hl_lt ho))) rfl rfl rfl (by simp) rfl (by decide) (fun z => by cases z) (by omega)) rfl rfl rfl ?_
                have hT : (outT vb v w w k).1 = (outF vb (vk v) (vk w) (vnum v (k : Int)) (vnum w (k : Int))).1 := outT_1 (fun z => by obtain ⟨z1, z2, z3⟩ := z; first | (have z4 : fitsB (outF vb (vk v) (vk w) (vnum v (k : Int)) (vnum w (k : Int))).2 = true := (by assumption); rw [z3] at z4; cases z4) | omega)
                refine y_iinc (pc' := 124) (L' := [(6, ii ((k : Int) + 1)), (7, .long ((outF vb (vk v) (vk w) (vnum v (k : Int)) (vnum w (k : Int))).2)), (0, .ref o), (1, .ref p), (2, .ref q), (3, ii ar), (4, .ref q), (5, ii (vq w : Int))]) dm_X5_askFlat_121 (y_incp (a := (k : Int)) (c := 1) rfl rfl (by decide)) rfl ?_
                refine me2 (pc' := 33) (S' := []) dm_X5_askFlat_124 rfl rfl rfl ?_
                refine pg_cast (h2 := ((h).set o (cO 5 [ii vb, ii ((outT vb v w w k).1), .ref nq, ii sz, ii lv, ii ((m + 1) : Int), ii vm_, zz rw_, ro, va, ii nu, ii vu])).set nq (cJ 1000 (va_up N m (outT vb v w w k).2))) (by rw [hT, outT_2, setoq (by omega)]) ?_
                exact pg_sub (L := [(0, .ref o), (1, .ref p), (2, .ref q), (3, ii ar), (4, .ref q), (5, ii (vq w : Int)), (6, ii ((k + 1) : Int))]) rfl rfl rfl (ih33 (vq w - (k + 1)) (by omega) (k + 1) (m + 1) (va_up N m (outT vb v w w k).2) ((outT vb v w w k).1) rfl (by omega) (by omega) (by rw [hT]; omega) (by rw [flE_s (by rw [← hfe]; omega)]) (flN_s hN (by rw [← hfe]; omega) (by omega)))
            · refine me1 (pc' := 66) (L' := [(7, .long ((outF vb (vk v) (vk w) (vnum v (k : Int)) (vnum w (k : Int))).2)), (0, .ref o), (1, .ref p), (2, .ref q), (3, ii ar), (4, .ref q), (5, ii (vq w : Int)), (6, ii (k : Int))]) (S' := [.ref q]) dm_X5_askFlat_64 rfl rfl rfl rfl ?_
              refine me3 (pc' := 69) (S' := [ii (vk w : Int)]) dm_X5_askFlat_66 (g_get (v := ii (vk w : Int)) (hl_ne (by omega) (hl_ne (by omega) (hl_ne (by omega) hq))) rfl rfl (by omega)) rfl rfl rfl ?_
              refine me0 (pc' := 71) (S' := [ii 6, ii (vk w : Int)]) dm_X5_askFlat_69 rfl rfl rfl rfl ?_
              refine y_2ne (a := (vk w : Int)) (b := 6) (t := 88) (pc' := 74) dm_X5_askFlat_71 rfl rfl (by omega) (fun hb12 => ?_) (fun hb12 => ?_)
              · refine pg_cast (h2 := ((h).set o (cO 5 [ii vb, ii ((outF vb (vk v) (vk w) (vnum v (k : Int)) (vnum w (k : Int))).1), .ref nq, ii sz, ii lv, ii (m : Int), ii vm_, zz rw_, ro, va, ii nu, ii vu])).set nq (cJ 1000 N)) (setoq (by omega)) ?_
                refine me1 (pc' := 89) (L' := [(7, .long ((outF vb (vk v) (vk w) (vnum v (k : Int)) (vnum w (k : Int))).2)), (0, .ref o), (1, .ref p), (2, .ref q), (3, ii ar), (4, .ref q), (5, ii (vq w : Int)), (6, ii (k : Int))]) (S' := [.ref o]) dm_X5_askFlat_88 rfl rfl rfl rfl ?_
                refine me3 (pc' := 92) (S' := [ii (m : Int)]) dm_X5_askFlat_89 (g_get (v := ii (m : Int)) (hl_ne (by omega) (hl_set (hl_lt ho))) rfl rfl (by omega)) rfl rfl rfl ?_
                refine me1 (pc' := 93) (L' := [(7, .long ((outF vb (vk v) (vk w) (vnum v (k : Int)) (vnum w (k : Int))).2)), (0, .ref o), (1, .ref p), (2, .ref q), (3, ii ar), (4, .ref q), (5, ii (vq w : Int)), (6, ii (k : Int))]) (S' := [.ref o, ii (m : Int)]) dm_X5_askFlat_92 rfl rfl rfl rfl ?_
                refine me3 (pc' := 96) (S' := [.ref nq, ii (m : Int)]) dm_X5_askFlat_93 (g_get (v := .ref nq) (hl_ne (by omega) (hl_set (hl_lt ho))) rfl rfl (by omega)) rfl rfl rfl ?_
                refine me3 (pc' := 97) (S' := [ii 1000, ii (m : Int)]) dm_X5_askFlat_96 (yh_len (n := 1000) rfl (hl_set (hl_lt (hl_ne (by omega) hnq))) (by omega)) rfl rfl rfl ?_
                refine y_2ge (a := (m : Int)) (b := 1000) (t := 121) (pc' := 100) dm_X5_askFlat_97 rfl rfl (by omega) (fun hb13 => ?_) (fun hb13 => ?_)
                · have hT : (outT vb v w w k).1 = (outF vb (vk v) (vk w) (vnum v (k : Int)) (vnum w (k : Int))).1 := outT_1 (fun z => by obtain ⟨z1, z2, z3⟩ := z; first | (have z4 : fitsB (outF vb (vk v) (vk w) (vnum v (k : Int)) (vnum w (k : Int))).2 = true := (by assumption); rw [z3] at z4; cases z4) | omega)
                  refine y_iinc (pc' := 124) (L' := [(6, ii ((k : Int) + 1)), (7, .long ((outF vb (vk v) (vk w) (vnum v (k : Int)) (vnum w (k : Int))).2)), (0, .ref o), (1, .ref p), (2, .ref q), (3, ii ar), (4, .ref q), (5, ii (vq w : Int))]) dm_X5_askFlat_121 (y_incp (a := (k : Int)) (c := 1) rfl rfl (by decide)) rfl ?_
                  refine me2 (pc' := 33) (S' := []) dm_X5_askFlat_124 rfl rfl rfl ?_
                  refine pg_cast (h2 := ((h).set o (cO 5 [ii vb, ii ((outT vb v w w k).1), .ref nq, ii sz, ii lv, ii (m : Int), ii vm_, zz rw_, ro, va, ii nu, ii vu])).set nq (cJ 1000 N)) (by rw [hT]) ?_
                  exact pg_sub (L := [(0, .ref o), (1, .ref p), (2, .ref q), (3, ii ar), (4, .ref q), (5, ii (vq w : Int)), (6, ii ((k + 1) : Int))]) rfl rfl rfl (ih33 (vq w - (k + 1)) (by omega) (k + 1) m N ((outT vb v w w k).1) rfl (by omega) (by omega) (by rw [hT]; omega) (by rw [flE_s (by rw [← hfe]; omega)]) (flN_t hN (by rw [← hfe]; omega) (by omega)))
                · refine me1 (pc' := 101) (L' := [(7, .long ((outF vb (vk v) (vk w) (vnum v (k : Int)) (vnum w (k : Int))).2)), (0, .ref o), (1, .ref p), (2, .ref q), (3, ii ar), (4, .ref q), (5, ii (vq w : Int)), (6, ii (k : Int))]) (S' := [.ref o]) dm_X5_askFlat_100 rfl rfl rfl rfl ?_
                  refine me3 (pc' := 104) (S' := [.ref nq]) dm_X5_askFlat_101 (g_get (v := .ref nq) (hl_ne (by omega) (hl_set (hl_lt ho))) rfl rfl (by omega)) rfl rfl rfl ?_
                  refine me1 (pc' := 105) (L' := [(7, .long ((outF vb (vk v) (vk w) (vnum v (k : Int)) (vnum w (k : Int))).2)), (0, .ref o), (1, .ref p), (2, .ref q), (3, ii ar), (4, .ref q), (5, ii (vq w : Int)), (6, ii (k : Int))]) (S' := [.ref o, .ref nq]) dm_X5_askFlat_104 rfl rfl rfl rfl ?_
                  refine me3 (pc' := 108) (S' := [ii (m : Int), .ref nq]) dm_X5_askFlat_105 (g_get (v := ii (m : Int)) (hl_ne (by omega) (hl_set (hl_lt ho))) rfl rfl (by omega)) rfl rfl rfl ?_
                  refine me1 (pc' := 110) (L' := [(7, .long ((outF vb (vk v) (vk w) (vnum v (k : Int)) (vnum w (k : Int))).2)), (0, .ref o), (1, .ref p), (2, .ref q), (3, ii ar), (4, .ref q), (5, ii (vq w : Int)), (6, ii (k : Int))]) (S' := [.long ((outF vb (vk v) (vk w) (vnum v (k : Int)) (vnum w (k : Int))).2), ii (m : Int), .ref nq]) dm_X5_askFlat_108 rfl rfl rfl rfl ?_
                  refine me3 (pc' := 111) (S' := []) (h1 := ((h).set o (cO 5 [ii vb, ii ((outF vb (vk v) (vk w) (vnum v (k : Int)) (vnum w (k : Int))).1), .ref nq, ii sz, ii lv, ii (m : Int), ii vm_, zz rw_, ro, va, ii nu, ii vu])).set nq (cJ 1000 (va_up N m ((outF vb (vk v) (vk w) (vnum v (k : Int)) (vnum w (k : Int))).2)))) dm_X5_askFlat_110 (y_hs (yh_last (j := (m : Int)) (hl_set (hl_lt (hl_ne (by omega) hnq))) (by omega) (by omega) (by omega) (by omega)) (by rw [show (m : Int).toNat = m from rfl]; rw [List.set_set])) rfl rfl rfl ?_
                  refine me1 (pc' := 112) (L' := [(7, .long ((outF vb (vk v) (vk w) (vnum v (k : Int)) (vnum w (k : Int))).2)), (0, .ref o), (1, .ref p), (2, .ref q), (3, ii ar), (4, .ref q), (5, ii (vq w : Int)), (6, ii (k : Int))]) (S' := [.ref o]) dm_X5_askFlat_111 rfl rfl rfl rfl ?_
                  refine me0 (pc' := 113) (S' := [.ref o, .ref o]) dm_X5_askFlat_112 rfl rfl rfl rfl ?_
                  refine me3 (pc' := 116) (S' := [ii (m : Int), .ref o]) dm_X5_askFlat_113 (g_get (v := ii (m : Int)) (hl_ne (by omega) (hl_set (hl_lt ho))) rfl rfl (by omega)) rfl rfl rfl ?_
                  refine me0 (pc' := 117) (S' := [ii 1, ii (m : Int), .ref o]) dm_X5_askFlat_116 rfl rfl rfl rfl ?_
                  refine y_iadd (a := (m : Int)) (b := 1) dm_X5_askFlat_117 (pc' := 118) rfl ?_
                  refine me3 (pc' := 121) (S' := []) (h1 := (((h).set o (cO 5 [ii vb, ii ((outF vb (vk v) (vk w) (vnum v (k : Int)) (vnum w (k : Int))).1), .ref nq, ii sz, ii lv, ii (m : Int), ii vm_, zz rw_, ro, va, ii nu, ii vu])).set nq (cJ 1000 (va_up N m ((outF vb (vk v) (vk w) (vnum v (k : Int)) (vnum w (k : Int))).2)))).set o (cO 5 [ii vb, ii ((outF vb (vk v) (vk w) (vnum v (k : Int)) (vnum w (k : Int))).1), .ref nq, ii sz, ii lv, ii ((m : Int) + 1), ii vm_, zz rw_, ro, va, ii nu, ii vu])) dm_X5_askFlat_118 (g_put (fs' := [ii vb, ii ((outF vb (vk v) (vk w) (vnum v (k : Int)) (vnum w (k : Int))).1), .ref nq, ii sz, ii lv, ii ((m : Int) + 1), ii vm_, zz rw_, ro, va, ii nu, ii vu]) (hl_ne (by omega) (hl_set (hl_lt ho))) rfl rfl rfl (by simp) rfl (by decide) (fun z => by cases z) (by omega)) rfl rfl rfl ?_
                  have hT : (outT vb v w w k).1 = (outF vb (vk v) (vk w) (vnum v (k : Int)) (vnum w (k : Int))).1 := outT_1 (fun z => by obtain ⟨z1, z2, z3⟩ := z; first | (have z4 : fitsB (outF vb (vk v) (vk w) (vnum v (k : Int)) (vnum w (k : Int))).2 = true := (by assumption); rw [z3] at z4; cases z4) | omega)
                  refine y_iinc (pc' := 124) (L' := [(6, ii ((k : Int) + 1)), (7, .long ((outF vb (vk v) (vk w) (vnum v (k : Int)) (vnum w (k : Int))).2)), (0, .ref o), (1, .ref p), (2, .ref q), (3, ii ar), (4, .ref q), (5, ii (vq w : Int))]) dm_X5_askFlat_121 (y_incp (a := (k : Int)) (c := 1) rfl rfl (by decide)) rfl ?_
                  refine me2 (pc' := 33) (S' := []) dm_X5_askFlat_124 rfl rfl rfl ?_
                  refine pg_cast (h2 := ((h).set o (cO 5 [ii vb, ii ((outT vb v w w k).1), .ref nq, ii sz, ii lv, ii ((m + 1) : Int), ii vm_, zz rw_, ro, va, ii nu, ii vu])).set nq (cJ 1000 (va_up N m (outT vb v w w k).2))) (by rw [hT, outT_2, setoq (by omega)]) ?_
                  exact pg_sub (L := [(0, .ref o), (1, .ref p), (2, .ref q), (3, ii ar), (4, .ref q), (5, ii (vq w : Int)), (6, ii ((k + 1) : Int))]) rfl rfl rfl (ih33 (vq w - (k + 1)) (by omega) (k + 1) (m + 1) (va_up N m (outT vb v w w k).2) ((outT vb v w w k).1) rfl (by omega) (by omega) (by rw [hT]; omega) (by rw [flE_s (by rw [← hfe]; omega)]) (flN_s hN (by rw [← hfe]; omega) (by omega)))
              · refine me1 (pc' := 76) (L' := [(7, .long ((outF vb (vk v) (vk w) (vnum v (k : Int)) (vnum w (k : Int))).2)), (0, .ref o), (1, .ref p), (2, .ref q), (3, ii ar), (4, .ref q), (5, ii (vq w : Int)), (6, ii (k : Int))]) (S' := [.long ((outF vb (vk v) (vk w) (vnum v (k : Int)) (vnum w (k : Int))).2)]) dm_X5_askFlat_74 rfl rfl rfl rfl ?_
                refine x_cp (pc' := 79) (v := zz (fitsB ((outF vb (vk v) (vk w) (vnum v (k : Int)) (vnum w (k : Int))).2))) (rest := []) dm_X5_askFlat_76 rfl (g_invs (As := [.long ((outF vb (vk v) (vk w) (vnum v (k : Int)) (vnum w (k : Int))).2)]) (S := []) rfl rfl rfl) rfl rfl rfl (c_fitsInt (by omega)) ?_
                refine y_zne (c := fitsB ((outF vb (vk v) (vk w) (vnum v (k : Int)) (vnum w (k : Int))).2)) (t := 88) (pc' := 82) dm_X5_askFlat_79 rfl rfl (fun hb14 => ?_) (fun hb14 => ?_)
                · refine pg_cast (h2 := ((h).set o (cO 5 [ii vb, ii ((outF vb (vk v) (vk w) (vnum v (k : Int)) (vnum w (k : Int))).1), .ref nq, ii sz, ii lv, ii (m : Int), ii vm_, zz rw_, ro, va, ii nu, ii vu])).set nq (cJ 1000 N)) (setoq (by omega)) ?_
                  refine me1 (pc' := 89) (L' := [(7, .long ((outF vb (vk v) (vk w) (vnum v (k : Int)) (vnum w (k : Int))).2)), (0, .ref o), (1, .ref p), (2, .ref q), (3, ii ar), (4, .ref q), (5, ii (vq w : Int)), (6, ii (k : Int))]) (S' := [.ref o]) dm_X5_askFlat_88 rfl rfl rfl rfl ?_
                  refine me3 (pc' := 92) (S' := [ii (m : Int)]) dm_X5_askFlat_89 (g_get (v := ii (m : Int)) (hl_ne (by omega) (hl_set (hl_lt ho))) rfl rfl (by omega)) rfl rfl rfl ?_
                  refine me1 (pc' := 93) (L' := [(7, .long ((outF vb (vk v) (vk w) (vnum v (k : Int)) (vnum w (k : Int))).2)), (0, .ref o), (1, .ref p), (2, .ref q), (3, ii ar), (4, .ref q), (5, ii (vq w : Int)), (6, ii (k : Int))]) (S' := [.ref o, ii (m : Int)]) dm_X5_askFlat_92 rfl rfl rfl rfl ?_
                  refine me3 (pc' := 96) (S' := [.ref nq, ii (m : Int)]) dm_X5_askFlat_93 (g_get (v := .ref nq) (hl_ne (by omega) (hl_set (hl_lt ho))) rfl rfl (by omega)) rfl rfl rfl ?_
                  refine me3 (pc' := 97) (S' := [ii 1000, ii (m : Int)]) dm_X5_askFlat_96 (yh_len (n := 1000) rfl (hl_set (hl_lt (hl_ne (by omega) hnq))) (by omega)) rfl rfl rfl ?_
                  refine y_2ge (a := (m : Int)) (b := 1000) (t := 121) (pc' := 100) dm_X5_askFlat_97 rfl rfl (by omega) (fun hb15 => ?_) (fun hb15 => ?_)
                  · have hT : (outT vb v w w k).1 = (outF vb (vk v) (vk w) (vnum v (k : Int)) (vnum w (k : Int))).1 := outT_1 (fun z => by obtain ⟨z1, z2, z3⟩ := z; first | (have z4 : fitsB (outF vb (vk v) (vk w) (vnum v (k : Int)) (vnum w (k : Int))).2 = true := (by assumption); rw [z3] at z4; cases z4) | omega)
                    refine y_iinc (pc' := 124) (L' := [(6, ii ((k : Int) + 1)), (7, .long ((outF vb (vk v) (vk w) (vnum v (k : Int)) (vnum w (k : Int))).2)), (0, .ref o), (1, .ref p), (2, .ref q), (3, ii ar), (4, .ref q), (5, ii (vq w : Int))]) dm_X5_askFlat_121 (y_incp (a := (k : Int)) (c := 1) rfl rfl (by decide)) rfl ?_
                    refine me2 (pc' := 33) (S' := []) dm_X5_askFlat_124 rfl rfl rfl ?_
                    refine pg_cast (h2 := ((h).set o (cO 5 [ii vb, ii ((outT vb v w w k).1), .ref nq, ii sz, ii lv, ii (m : Int), ii vm_, zz rw_, ro, va, ii nu, ii vu])).set nq (cJ 1000 N)) (by rw [hT]) ?_
                    exact pg_sub (L := [(0, .ref o), (1, .ref p), (2, .ref q), (3, ii ar), (4, .ref q), (5, ii (vq w : Int)), (6, ii ((k + 1) : Int))]) rfl rfl rfl (ih33 (vq w - (k + 1)) (by omega) (k + 1) m N ((outT vb v w w k).1) rfl (by omega) (by omega) (by rw [hT]; omega) (by rw [flE_s (by rw [← hfe]; omega)]) (flN_t hN (by rw [← hfe]; omega) (by omega)))
                  · refine me1 (pc' := 101) (L' := [(7, .long ((outF vb (vk v) (vk w) (vnum v (k : Int)) (vnum w (k : Int))).2)), (0, .ref o), (1, .ref p), (2, .ref q), (3, ii ar), (4, .ref q), (5, ii (vq w : Int)), (6, ii (k : Int))]) (S' := [.ref o]) dm_X5_askFlat_100 rfl rfl rfl rfl ?_
                    refine me3 (pc' := 104) (S' := [.ref nq]) dm_X5_askFlat_101 (g_get (v := .ref nq) (hl_ne (by omega) (hl_set (hl_lt ho))) rfl rfl (by omega)) rfl rfl rfl ?_
                    refine me1 (pc' := 105) (L' := [(7, .long ((outF vb (vk v) (vk w) (vnum v (k : Int)) (vnum w (k : Int))).2)), (0, .ref o), (1, .ref p), (2, .ref q), (3, ii ar), (4, .ref q), (5, ii (vq w : Int)), (6, ii (k : Int))]) (S' := [.ref o, .ref nq]) dm_X5_askFlat_104 rfl rfl rfl rfl ?_
                    refine me3 (pc' := 108) (S' := [ii (m : Int), .ref nq]) dm_X5_askFlat_105 (g_get (v := ii (m : Int)) (hl_ne (by omega) (hl_set (hl_lt ho))) rfl rfl (by omega)) rfl rfl rfl ?_
                    refine me1 (pc' := 110) (L' := [(7, .long ((outF vb (vk v) (vk w) (vnum v (k : Int)) (vnum w (k : Int))).2)), (0, .ref o), (1, .ref p), (2, .ref q), (3, ii ar), (4, .ref q), (5, ii (vq w : Int)), (6, ii (k : Int))]) (S' := [.long ((outF vb (vk v) (vk w) (vnum v (k : Int)) (vnum w (k : Int))).2), ii (m : Int), .ref nq]) dm_X5_askFlat_108 rfl rfl rfl rfl ?_
                    refine me3 (pc' := 111) (S' := []) (h1 := ((h).set o (cO 5 [ii vb, ii ((outF vb (vk v) (vk w) (vnum v (k : Int)) (vnum w (k : Int))).1), .ref nq, ii sz, ii lv, ii (m : Int), ii vm_, zz rw_, ro, va, ii nu, ii vu])).set nq (cJ 1000 (va_up N m ((outF vb (vk v) (vk w) (vnum v (k : Int)) (vnum w (k : Int))).2)))) dm_X5_askFlat_110 (y_hs (yh_last (j := (m : Int)) (hl_set (hl_lt (hl_ne (by omega) hnq))) (by omega) (by omega) (by omega) (by omega)) (by rw [show (m : Int).toNat = m from rfl]; rw [List.set_set])) rfl rfl rfl ?_
                    refine me1 (pc' := 112) (L' := [(7, .long ((outF vb (vk v) (vk w) (vnum v (k : Int)) (vnum w (k : Int))).2)), (0, .ref o), (1, .ref p), (2, .ref q), (3, ii ar), (4, .ref q), (5, ii (vq w : Int)), (6, ii (k : Int))]) (S' := [.ref o]) dm_X5_askFlat_111 rfl rfl rfl rfl ?_
                    refine me0 (pc' := 113) (S' := [.ref o, .ref o]) dm_X5_askFlat_112 rfl rfl rfl rfl ?_
                    refine me3 (pc' := 116) (S' := [ii (m : Int), .ref o]) dm_X5_askFlat_113 (g_get (v := ii (m : Int)) (hl_ne (by omega) (hl_set (hl_lt ho))) rfl rfl (by omega)) rfl rfl rfl ?_
                    refine me0 (pc' := 117) (S' := [ii 1, ii (m : Int), .ref o]) dm_X5_askFlat_116 rfl rfl rfl rfl ?_
                    refine y_iadd (a := (m : Int)) (b := 1) dm_X5_askFlat_117 (pc' := 118) rfl ?_
                    refine me3 (pc' := 121) (S' := []) (h1 := (((h).set o (cO 5 [ii vb, ii ((outF vb (vk v) (vk w) (vnum v (k : Int)) (vnum w (k : Int))).1), .ref nq, ii sz, ii lv, ii (m : Int), ii vm_, zz rw_, ro, va, ii nu, ii vu])).set nq (cJ 1000 (va_up N m ((outF vb (vk v) (vk w) (vnum v (k : Int)) (vnum w (k : Int))).2)))).set o (cO 5 [ii vb, ii ((outF vb (vk v) (vk w) (vnum v (k : Int)) (vnum w (k : Int))).1), .ref nq, ii sz, ii lv, ii ((m : Int) + 1), ii vm_, zz rw_, ro, va, ii nu, ii vu])) dm_X5_askFlat_118 (g_put (fs' := [ii vb, ii ((outF vb (vk v) (vk w) (vnum v (k : Int)) (vnum w (k : Int))).1), .ref nq, ii sz, ii lv, ii ((m : Int) + 1), ii vm_, zz rw_, ro, va, ii nu, ii vu]) (hl_ne (by omega) (hl_set (hl_lt ho))) rfl rfl rfl (by simp) rfl (by decide) (fun z => by cases z) (by omega)) rfl rfl rfl ?_
                    have hT : (outT vb v w w k).1 = (outF vb (vk v) (vk w) (vnum v (k : Int)) (vnum w (k : Int))).1 := outT_1 (fun z => by obtain ⟨z1, z2, z3⟩ := z; first | (have z4 : fitsB (outF vb (vk v) (vk w) (vnum v (k : Int)) (vnum w (k : Int))).2 = true := (by assumption); rw [z3] at z4; cases z4) | omega)
                    refine y_iinc (pc' := 124) (L' := [(6, ii ((k : Int) + 1)), (7, .long ((outF vb (vk v) (vk w) (vnum v (k : Int)) (vnum w (k : Int))).2)), (0, .ref o), (1, .ref p), (2, .ref q), (3, ii ar), (4, .ref q), (5, ii (vq w : Int))]) dm_X5_askFlat_121 (y_incp (a := (k : Int)) (c := 1) rfl rfl (by decide)) rfl ?_
                    refine me2 (pc' := 33) (S' := []) dm_X5_askFlat_124 rfl rfl rfl ?_
                    refine pg_cast (h2 := ((h).set o (cO 5 [ii vb, ii ((outT vb v w w k).1), .ref nq, ii sz, ii lv, ii ((m + 1) : Int), ii vm_, zz rw_, ro, va, ii nu, ii vu])).set nq (cJ 1000 (va_up N m (outT vb v w w k).2))) (by rw [hT, outT_2, setoq (by omega)]) ?_
                    exact pg_sub (L := [(0, .ref o), (1, .ref p), (2, .ref q), (3, ii ar), (4, .ref q), (5, ii (vq w : Int)), (6, ii ((k + 1) : Int))]) rfl rfl rfl (ih33 (vq w - (k + 1)) (by omega) (k + 1) (m + 1) (va_up N m (outT vb v w w k).2) ((outT vb v w w k).1) rfl (by omega) (by omega) (by rw [hT]; omega) (by rw [flE_s (by rw [← hfe]; omega)]) (flN_s hN (by rw [← hfe]; omega) (by omega)))
                · refine me1 (pc' := 83) (L' := [(7, .long ((outF vb (vk v) (vk w) (vnum v (k : Int)) (vnum w (k : Int))).2)), (0, .ref o), (1, .ref p), (2, .ref q), (3, ii ar), (4, .ref q), (5, ii (vq w : Int)), (6, ii (k : Int))]) (S' := [.ref o]) dm_X5_askFlat_82 rfl rfl rfl rfl ?_
                  refine me0 (pc' := 85) (S' := [ii 6, .ref o]) dm_X5_askFlat_83 rfl rfl rfl rfl ?_
                  refine me3 (pc' := 88) (S' := []) (h1 := (((h).set o (cO 5 [ii vb, ii f, .ref nq, ii sz, ii lv, ii (m : Int), ii vm_, zz rw_, ro, va, ii nu, ii vu])).set nq (cJ 1000 N)).set o (cO 5 [ii vb, ii 6, .ref nq, ii sz, ii lv, ii (m : Int), ii vm_, zz rw_, ro, va, ii nu, ii vu])) dm_X5_askFlat_85 (g_put (fs' := [ii vb, ii 6, .ref nq, ii sz, ii lv, ii (m : Int), ii vm_, zz rw_, ro, va, ii nu, ii vu]) (hl_set (hl_lt (hl_ne (by omega) (hl_set (hl_lt ho))))) rfl (by rw [List.set_set]) rfl (by simp) rfl (by decide) (fun z => by cases z) (by omega)) rfl rfl rfl ?_
                  refine pg_cast (h2 := ((h).set o (cO 5 [ii vb, ii 6, .ref nq, ii sz, ii lv, ii (m : Int), ii vm_, zz rw_, ro, va, ii nu, ii vu])).set nq (cJ 1000 N)) (setoq (by omega)) ?_
                  refine me1 (pc' := 89) (L' := [(7, .long ((outF vb (vk v) (vk w) (vnum v (k : Int)) (vnum w (k : Int))).2)), (0, .ref o), (1, .ref p), (2, .ref q), (3, ii ar), (4, .ref q), (5, ii (vq w : Int)), (6, ii (k : Int))]) (S' := [.ref o]) dm_X5_askFlat_88 rfl rfl rfl rfl ?_
                  refine me3 (pc' := 92) (S' := [ii (m : Int)]) dm_X5_askFlat_89 (g_get (v := ii (m : Int)) (hl_ne (by omega) (hl_set (hl_lt ho))) rfl rfl (by omega)) rfl rfl rfl ?_
                  refine me1 (pc' := 93) (L' := [(7, .long ((outF vb (vk v) (vk w) (vnum v (k : Int)) (vnum w (k : Int))).2)), (0, .ref o), (1, .ref p), (2, .ref q), (3, ii ar), (4, .ref q), (5, ii (vq w : Int)), (6, ii (k : Int))]) (S' := [.ref o, ii (m : Int)]) dm_X5_askFlat_92 rfl rfl rfl rfl ?_
                  refine me3 (pc' := 96) (S' := [.ref nq, ii (m : Int)]) dm_X5_askFlat_93 (g_get (v := .ref nq) (hl_ne (by omega) (hl_set (hl_lt ho))) rfl rfl (by omega)) rfl rfl rfl ?_
                  refine me3 (pc' := 97) (S' := [ii 1000, ii (m : Int)]) dm_X5_askFlat_96 (yh_len (n := 1000) rfl (hl_set (hl_lt (hl_ne (by omega) hnq))) (by omega)) rfl rfl rfl ?_
                  refine y_2ge (a := (m : Int)) (b := 1000) (t := 121) (pc' := 100) dm_X5_askFlat_97 rfl rfl (by omega) (fun hb16 => ?_) (fun hb16 => ?_)
                  · have hT : (outT vb v w w k).1 = 6 := outT_6 (by refine ⟨by omega, by omega, by assumption⟩)
                    refine y_iinc (pc' := 124) (L' := [(6, ii ((k : Int) + 1)), (7, .long ((outF vb (vk v) (vk w) (vnum v (k : Int)) (vnum w (k : Int))).2)), (0, .ref o), (1, .ref p), (2, .ref q), (3, ii ar), (4, .ref q), (5, ii (vq w : Int))]) dm_X5_askFlat_121 (y_incp (a := (k : Int)) (c := 1) rfl rfl (by decide)) rfl ?_
                    refine me2 (pc' := 33) (S' := []) dm_X5_askFlat_124 rfl rfl rfl ?_
                    refine pg_cast (h2 := ((h).set o (cO 5 [ii vb, ii ((outT vb v w w k).1), .ref nq, ii sz, ii lv, ii (m : Int), ii vm_, zz rw_, ro, va, ii nu, ii vu])).set nq (cJ 1000 N)) (by rw [hT]) ?_
                    exact pg_sub (L := [(0, .ref o), (1, .ref p), (2, .ref q), (3, ii ar), (4, .ref q), (5, ii (vq w : Int)), (6, ii ((k + 1) : Int))]) rfl rfl rfl (ih33 (vq w - (k + 1)) (by omega) (k + 1) m N ((outT vb v w w k).1) rfl (by omega) (by omega) (by rw [hT]; omega) (by rw [flE_s (by rw [← hfe]; omega)]) (flN_t hN (by rw [← hfe]; omega) (by omega)))
                  · refine me1 (pc' := 101) (L' := [(7, .long ((outF vb (vk v) (vk w) (vnum v (k : Int)) (vnum w (k : Int))).2)), (0, .ref o), (1, .ref p), (2, .ref q), (3, ii ar), (4, .ref q), (5, ii (vq w : Int)), (6, ii (k : Int))]) (S' := [.ref o]) dm_X5_askFlat_100 rfl rfl rfl rfl ?_
                    refine me3 (pc' := 104) (S' := [.ref nq]) dm_X5_askFlat_101 (g_get (v := .ref nq) (hl_ne (by omega) (hl_set (hl_lt ho))) rfl rfl (by omega)) rfl rfl rfl ?_
                    refine me1 (pc' := 105) (L' := [(7, .long ((outF vb (vk v) (vk w) (vnum v (k : Int)) (vnum w (k : Int))).2)), (0, .ref o), (1, .ref p), (2, .ref q), (3, ii ar), (4, .ref q), (5, ii (vq w : Int)), (6, ii (k : Int))]) (S' := [.ref o, .ref nq]) dm_X5_askFlat_104 rfl rfl rfl rfl ?_
                    refine me3 (pc' := 108) (S' := [ii (m : Int), .ref nq]) dm_X5_askFlat_105 (g_get (v := ii (m : Int)) (hl_ne (by omega) (hl_set (hl_lt ho))) rfl rfl (by omega)) rfl rfl rfl ?_
                    refine me1 (pc' := 110) (L' := [(7, .long ((outF vb (vk v) (vk w) (vnum v (k : Int)) (vnum w (k : Int))).2)), (0, .ref o), (1, .ref p), (2, .ref q), (3, ii ar), (4, .ref q), (5, ii (vq w : Int)), (6, ii (k : Int))]) (S' := [.long ((outF vb (vk v) (vk w) (vnum v (k : Int)) (vnum w (k : Int))).2), ii (m : Int), .ref nq]) dm_X5_askFlat_108 rfl rfl rfl rfl ?_
                    refine me3 (pc' := 111) (S' := []) (h1 := ((h).set o (cO 5 [ii vb, ii 6, .ref nq, ii sz, ii lv, ii (m : Int), ii vm_, zz rw_, ro, va, ii nu, ii vu])).set nq (cJ 1000 (va_up N m ((outF vb (vk v) (vk w) (vnum v (k : Int)) (vnum w (k : Int))).2)))) dm_X5_askFlat_110 (y_hs (yh_last (j := (m : Int)) (hl_set (hl_lt (hl_ne (by omega) hnq))) (by omega) (by omega) (by omega) (by omega)) (by rw [show (m : Int).toNat = m from rfl]; rw [List.set_set])) rfl rfl rfl ?_
                    refine me1 (pc' := 112) (L' := [(7, .long ((outF vb (vk v) (vk w) (vnum v (k : Int)) (vnum w (k : Int))).2)), (0, .ref o), (1, .ref p), (2, .ref q), (3, ii ar), (4, .ref q), (5, ii (vq w : Int)), (6, ii (k : Int))]) (S' := [.ref o]) dm_X5_askFlat_111 rfl rfl rfl rfl ?_
                    refine me0 (pc' := 113) (S' := [.ref o, .ref o]) dm_X5_askFlat_112 rfl rfl rfl rfl ?_
                    refine me3 (pc' := 116) (S' := [ii (m : Int), .ref o]) dm_X5_askFlat_113 (g_get (v := ii (m : Int)) (hl_ne (by omega) (hl_set (hl_lt ho))) rfl rfl (by omega)) rfl rfl rfl ?_
                    refine me0 (pc' := 117) (S' := [ii 1, ii (m : Int), .ref o]) dm_X5_askFlat_116 rfl rfl rfl rfl ?_
                    refine y_iadd (a := (m : Int)) (b := 1) dm_X5_askFlat_117 (pc' := 118) rfl ?_
                    refine me3 (pc' := 121) (S' := []) (h1 := (((h).set o (cO 5 [ii vb, ii 6, .ref nq, ii sz, ii lv, ii (m : Int), ii vm_, zz rw_, ro, va, ii nu, ii vu])).set nq (cJ 1000 (va_up N m ((outF vb (vk v) (vk w) (vnum v (k : Int)) (vnum w (k : Int))).2)))).set o (cO 5 [ii vb, ii 6, .ref nq, ii sz, ii lv, ii ((m : Int) + 1), ii vm_, zz rw_, ro, va, ii nu, ii vu])) dm_X5_askFlat_118 (g_put (fs' := [ii vb, ii 6, .ref nq, ii sz, ii lv, ii ((m : Int) + 1), ii vm_, zz rw_, ro, va, ii nu, ii vu]) (hl_ne (by omega) (hl_set (hl_lt ho))) rfl rfl rfl (by simp) rfl (by decide) (fun z => by cases z) (by omega)) rfl rfl rfl ?_
                    have hT : (outT vb v w w k).1 = 6 := outT_6 (by refine ⟨by omega, by omega, by assumption⟩)
                    refine y_iinc (pc' := 124) (L' := [(6, ii ((k : Int) + 1)), (7, .long ((outF vb (vk v) (vk w) (vnum v (k : Int)) (vnum w (k : Int))).2)), (0, .ref o), (1, .ref p), (2, .ref q), (3, ii ar), (4, .ref q), (5, ii (vq w : Int))]) dm_X5_askFlat_121 (y_incp (a := (k : Int)) (c := 1) rfl rfl (by decide)) rfl ?_
                    refine me2 (pc' := 33) (S' := []) dm_X5_askFlat_124 rfl rfl rfl ?_
                    refine pg_cast (h2 := ((h).set o (cO 5 [ii vb, ii ((outT vb v w w k).1), .ref nq, ii sz, ii lv, ii ((m + 1) : Int), ii vm_, zz rw_, ro, va, ii nu, ii vu])).set nq (cJ 1000 (va_up N m (outT vb v w w k).2))) (by rw [hT, outT_2, setoq (by omega)]) ?_
                    exact pg_sub (L := [(0, .ref o), (1, .ref p), (2, .ref q), (3, ii ar), (4, .ref q), (5, ii (vq w : Int)), (6, ii ((k + 1) : Int))]) rfl rfl rfl (ih33 (vq w - (k + 1)) (by omega) (k + 1) (m + 1) (va_up N m (outT vb v w w k).2) ((outT vb v w w k).1) rfl (by omega) (by omega) (by rw [hT]; omega) (by rw [flE_s (by rw [← hfe]; omega)]) (flN_s hN (by rw [← hfe]; omega) (by omega)))
    refine pg_cast (h2 := ((h).set o (cO 5 [ii vb, ii (askF v w), .ref nq, ii sz, ii lv, ii (m0 : Int), ii vm_, zz rw_, ro, va, ii nu, ii vu])).set nq (cJ 1000 N0)) (hl_self (hl_ne (by omega) hnq)).symm ?_
    exact pg_sub (L := [(0, .ref o), (1, .ref p), (2, .ref q), (3, ii ar), (4, .ref q), (5, ii (vq w : Int)), (6, ii (0 : Int))]) rfl rfl rfl (lp33 _ 0 m0 N0 (askF v w) rfl (Nat.zero_le _) hm0 (by omega) flE_0 (flN_0 hm0))
theorem dm_X5_askFlat_20 : mj_dec prog_7_method_4_code 20 = some (.aload_n 1, 1) := by decide +kernel
theorem p_askFlat2 {xt : mj_X} {d e p : Nat} {A : Nat → Prop} {h : mj_H} {v : VV} {q m0 : Nat} {w : VV} {ar : Int} {N0 : Nat → Int64} {f1 : Nat → Value} (hx1 : xt 1 = some (.long, 0, f1)) (hd : 4 ≤ d) (hA : okA A h) (hv : cv A h (e + 1) p v) (hw : cv A h (e + 1) q w) {o nq : Nat} {vb sz lv vm_ nu vu : Int} {rw_ : Bool} {ro va : Value} (hoq : (o = 23 ∧ nq = 24) ∨ (o = 27 ∧ nq = 28)) (ho : h[o]? = some (PO vb 0 nq sz lv (m0 : Int) vm_ rw_ ro va nu vu)) (hnq : h[nq]? = some (cJ 1000 N0)) (hm0 : m0 ≤ 1000) (hvb : -2147483648 ≤ vb ∧ vb ≤ 2147483647) (hlv : 0 ≤ lv ∧ lv ≤ 1000) (har : 0 ≤ ar ∧ ar ≤ 1000) (hlk : ¬ vk v ≤ 1) : pgN xt d 88 [.ref o, .ref p, .ref q, ii ar] h (fun h' => ∃ (m : Nat) (N : Nat → Int64), h' = (h.set o (PO vb (flE vb v w v (vq v)) nq (sz + (vsz (e + 1) v : Int)) (max lv (ar + (vlv (e + 1) v : Int))) (m : Int) vm_ (rw_ || decide (0 < vq v ∧ ¬ vk v ≤ 1)) ro va nu vu)).set nq (cJ 1000 N) ∧ m ≤ 1000 ∧ flN vb v w v m0 N0 (vq v) m N) := by
  have hcv := vw1_c hv.1
  have hcw := vw1_c hw.1
  obtain ⟨row, fr, vals, hp, hp2, hpA, hvk, hvm, hvc, hvs, hvl⟩ := cv_val hv
  obtain ⟨row2, fr2, vals2, hq, hq2, hqA, hwk, hwm, hwc, hws, hwl⟩ := cv_val hw
  have haf := askF_r v w
  have hqv := vq_le hv.1
  have hqw := vq_le hw.1
  have hpb := hA p hpA
  have hqb := hA q hqA
  clear hcv hcw
  have hne : o ≠ nq ∧ 2 ≤ o ∧ 2 ≤ nq ∧ o < 127 ∧ nq < 127 ∧ o ≠ 25 ∧ nq ≠ 25 ∧ o ≠ 101 ∧ nq ≠ 101 ∧ p ≠ o ∧ p ≠ nq ∧ q ≠ o ∧ q ≠ nq := by omega
  clear hoq hpb hqb
  refine x_enter pm_X5_askFlat (L0 := [(0, .ref o), (1, .ref p), (2, .ref q), (3, ii ar)]) rfl (Nat.le_of_ble_eq_true rfl) (by omega) ?_
  refine me1 (pc' := 1) (L' := [(0, .ref o), (1, .ref p), (2, .ref q), (3, ii ar)]) (S' := [.ref o]) dm_X5_askFlat_0 rfl rfl rfl rfl ?_
  refine me1 (pc' := 2) (L' := [(0, .ref o), (1, .ref p), (2, .ref q), (3, ii ar)]) (S' := [.ref p, .ref o]) dm_X5_askFlat_1 rfl rfl rfl rfl ?_
  refine me1 (pc' := 3) (L' := [(0, .ref o), (1, .ref p), (2, .ref q), (3, ii ar)]) (S' := [.ref q, .ref p, .ref o]) dm_X5_askFlat_2 rfl rfl rfl rfl ?_
  refine x_cp (pc' := 6) (v := ii (askF v w)) (rest := [.ref o]) dm_X5_askFlat_3 rfl (g_invs (As := [.ref p, .ref q]) (S := [.ref o]) rfl rfl rfl) rfl rfl rfl (p_asked (by omega) hv hw) ?_
  refine me3 (pc' := 9) (S' := []) (h1 := (h).set o (cO 5 [ii vb, ii (askF v w), .ref nq, ii sz, ii lv, ii (m0 : Int), ii vm_, zz rw_, ro, va, ii nu, ii vu])) dm_X5_askFlat_6 (g_put (fs' := [ii vb, ii (askF v w), .ref nq, ii sz, ii lv, ii (m0 : Int), ii vm_, zz rw_, ro, va, ii nu, ii vu]) ho rfl rfl rfl (by simp) rfl (by decide) (fun z => by cases z) (by omega)) rfl rfl rfl ?_
  refine me1 (pc' := 10) (L' := [(0, .ref o), (1, .ref p), (2, .ref q), (3, ii ar)]) (S' := [.ref p]) dm_X5_askFlat_9 rfl rfl rfl rfl ?_
  refine x_cp (pc' := 13) (v := zz (decide (vk v ≤ 1))) (rest := []) dm_X5_askFlat_10 rfl (g_inv (As := []) (S := []) (hl_ne (by omega) hp) rfl rfl rfl (by omega)) rfl rfl rfl (c_isOne (by omega) (cv_set (nA hA (Or.inl (by omega))) hv)) ?_
  refine y_zeq (c := decide (vk v ≤ 1)) (t := 20) (pc' := 16) dm_X5_askFlat_13 rfl rfl (fun hb1 => ?_) (fun hb1 => ?_)
  · replace hb1 := dF hb1
    refine me1 (pc' := 21) (L' := [(0, .ref o), (1, .ref p), (2, .ref q), (3, ii ar)]) (S' := [.ref p]) dm_X5_askFlat_20 rfl rfl rfl rfl ?_
    refine me1 (pc' := 23) (L' := [(4, .ref p), (0, .ref o), (1, .ref p), (2, .ref q), (3, ii ar)]) (S' := []) dm_X5_askFlat_21 rfl rfl rfl rfl ?_
    refine me1 (pc' := 25) (L' := [(4, .ref p), (0, .ref o), (1, .ref p), (2, .ref q), (3, ii ar)]) (S' := [.ref p]) dm_X5_askFlat_23 rfl rfl rfl rfl ?_
    refine x_cp (pc' := 28) (v := ii (vq v : Int)) (rest := []) dm_X5_askFlat_25 rfl (g_inv (As := []) (S := []) (hl_ne (by omega) hp) rfl rfl rfl (by omega)) rfl rfl rfl (c_numbers (by omega) (cv_set (nA hA (Or.inl (by omega))) hv)) ?_
    refine me1 (pc' := 30) (L' := [(5, ii (vq v : Int)), (4, .ref p), (0, .ref o), (1, .ref p), (2, .ref q), (3, ii ar)]) (S' := []) dm_X5_askFlat_28 rfl rfl rfl rfl ?_
    refine me0 (pc' := 31) (S' := [ii 0]) dm_X5_askFlat_30 rfl rfl rfl rfl ?_
    refine me1 (pc' := 33) (L' := [(6, ii 0), (5, ii (vq v : Int)), (4, .ref p), (0, .ref o), (1, .ref p), (2, .ref q), (3, ii ar)]) (S' := []) dm_X5_askFlat_31 rfl rfl rfl rfl ?_
    have lp33 : ∀ (n33 : Nat) (k : Nat) (m : Nat) (N : Nat → Int64) (f : Int), vq v - k = n33 → (k ≤ vq v) → (m ≤ 1000) → (0 ≤ f ∧ f ≤ 6) → (f = flE vb v w v k) → (flN vb v w v m0 N0 k m N) → pgE xt (d - 1) 5 9 false (Option.none : Option Jvm.ClassFile.FieldType) (mj_dec prog_7_method_4_code) 33 [(0, .ref o), (1, .ref p), (2, .ref q), (3, ii ar), (4, .ref p), (5, ii (vq v : Int)), (6, ii (k : Int))] [] (((h).set o (cO 5 [ii vb, ii f, .ref nq, ii sz, ii lv, ii (m : Int), ii vm_, zz rw_, ro, va, ii nu, ii vu])).set nq (cJ 1000 N)) (fun r h' => r = none ∧ (fun h' => ∃ (m : Nat) (N : Nat → Int64), h' = (h.set o (PO vb (flE vb v w v (vq v)) nq (sz + (vsz (e + 1) v : Int)) (max lv (ar + (vlv (e + 1) v : Int))) (m : Int) vm_ (rw_ || decide (0 < vq v ∧ ¬ vk v ≤ 1)) ro va nu vu)).set nq (cJ 1000 N) ∧ m ≤ 1000 ∧ flN vb v w v m0 N0 (vq v) m N) h') := by
      intro n33
      induction n33 using Nat.strongRecOn with
      | ind n33 ih33 =>
        intro k m N f hm33 hk hm1 hfr hfe hN
        refine me1 (pc' := 35) (L' := [(0, .ref o), (1, .ref p), (2, .ref q), (3, ii ar), (4, .ref p), (5, ii (vq v : Int)), (6, ii (k : Int))]) (S' := [ii (k : Int)]) dm_X5_askFlat_33 rfl rfl rfl rfl ?_
        refine me1 (pc' := 37) (L' := [(0, .ref o), (1, .ref p), (2, .ref q), (3, ii ar), (4, .ref p), (5, ii (vq v : Int)), (6, ii (k : Int))]) (S' := [ii (vq v : Int), ii (k : Int)]) dm_X5_askFlat_35 rfl rfl rfl rfl ?_
        refine y_2ge (a := (k : Int)) (b := (vq v : Int)) (t := 127) (pc' := 40) dm_X5_askFlat_37 rfl rfl (by omega) (fun hb2 => ?_) (fun hb2 => ?_)
        · refine me1 (pc' := 128) (L' := [(0, .ref o), (1, .ref p), (2, .ref q), (3, ii ar), (4, .ref p), (5, ii (vq v : Int)), (6, ii (k : Int))]) (S' := [.ref o]) dm_X5_askFlat_127 rfl rfl rfl rfl ?_
          refine me0 (pc' := 129) (S' := [.ref o, .ref o]) dm_X5_askFlat_128 rfl rfl rfl rfl ?_
          refine me3 (pc' := 132) (S' := [ii sz, .ref o]) dm_X5_askFlat_129 (g_get (v := ii sz) (hl_ne (by omega) (hl_set (hl_lt ho))) rfl rfl (by omega)) rfl rfl rfl ?_
          refine me1 (pc' := 134) (L' := [(0, .ref o), (1, .ref p), (2, .ref q), (3, ii ar), (4, .ref p), (5, ii (vq v : Int)), (6, ii (k : Int))]) (S' := [.ref p, ii sz, .ref o]) dm_X5_askFlat_132 rfl rfl rfl rfl ?_
          refine me3 (pc' := 137) (S' := [ii (vsz (e + 1) v : Int), ii sz, .ref o]) dm_X5_askFlat_134 (g_get (v := ii (vsz (e + 1) v : Int)) (hl_ne (by omega) (hl_ne (by omega) hp)) rfl rfl (by omega)) rfl rfl rfl ?_
          refine y_iadd (a := sz) (b := (vsz (e + 1) v : Int)) dm_X5_askFlat_137 (pc' := 138) rfl ?_
          refine me3 (pc' := 141) (S' := []) (h1 := (((h).set o (cO 5 [ii vb, ii f, .ref nq, ii sz, ii lv, ii (m : Int), ii vm_, zz rw_, ro, va, ii nu, ii vu])).set nq (cJ 1000 N)).set o (cO 5 [ii vb, ii f, .ref nq, ii (sz + (vsz (e + 1) v : Int)), ii lv, ii (m : Int), ii vm_, zz rw_, ro, va, ii nu, ii vu])) dm_X5_askFlat_138 (g_put (fs' := [ii vb, ii f, .ref nq, ii (sz + (vsz (e + 1) v : Int)), ii lv, ii (m : Int), ii vm_, zz rw_, ro, va, ii nu, ii vu]) (hl_ne (by omega) (hl_set (hl_lt ho))) rfl rfl rfl (by simp) rfl (by decide) (fun z => by cases z) (by omega)) rfl rfl rfl ?_
          refine me1 (pc' := 142) (L' := [(0, .ref o), (1, .ref p), (2, .ref q), (3, ii ar), (4, .ref p), (5, ii (vq v : Int)), (6, ii (k : Int))]) (S' := [.ref o]) dm_X5_askFlat_141 rfl rfl rfl rfl ?_
          refine me1 (pc' := 143) (L' := [(0, .ref o), (1, .ref p), (2, .ref q), (3, ii ar), (4, .ref p), (5, ii (vq v : Int)), (6, ii (k : Int))]) (S' := [.ref o, .ref o]) dm_X5_askFlat_142 rfl rfl rfl rfl ?_
          refine me3 (pc' := 146) (S' := [ii lv, .ref o]) dm_X5_askFlat_143 (g_get (v := ii lv) (hl_set (hl_lt (hl_ne (by omega) (hl_set (hl_lt ho))))) rfl rfl (by omega)) rfl rfl rfl ?_
          refine me1 (pc' := 147) (L' := [(0, .ref o), (1, .ref p), (2, .ref q), (3, ii ar), (4, .ref p), (5, ii (vq v : Int)), (6, ii (k : Int))]) (S' := [ii ar, ii lv, .ref o]) dm_X5_askFlat_146 rfl rfl rfl rfl ?_
          refine me1 (pc' := 149) (L' := [(0, .ref o), (1, .ref p), (2, .ref q), (3, ii ar), (4, .ref p), (5, ii (vq v : Int)), (6, ii (k : Int))]) (S' := [.ref p, ii ar, ii lv, .ref o]) dm_X5_askFlat_147 rfl rfl rfl rfl ?_
          refine me3 (pc' := 152) (S' := [ii (vlv (e + 1) v : Int), ii ar, ii lv, .ref o]) dm_X5_askFlat_149 (g_get (v := ii (vlv (e + 1) v : Int)) (hl_ne (by omega) (hl_ne (by omega) (hl_ne (by omega) hp))) rfl rfl (by omega)) rfl rfl rfl ?_
          refine y_iadd (a := ar) (b := (vlv (e + 1) v : Int)) dm_X5_askFlat_152 (pc' := 153) rfl ?_
          refine y_pr (i := .iadd) (pc' := 156) (S' := [ii (max lv (ar + (vlv (e + 1) v : Int))), .ref o]) dm_X5_askFlat_153 rfl (p_imax (by omega) (by omega) (by omega) (by omega) rfl) (by omega) rfl ?_
          refine me3 (pc' := 159) (S' := []) (h1 := (((h).set o (cO 5 [ii vb, ii f, .ref nq, ii sz, ii lv, ii (m : Int), ii vm_, zz rw_, ro, va, ii nu, ii vu])).set nq (cJ 1000 N)).set o (cO 5 [ii vb, ii f, .ref nq, ii (sz + (vsz (e + 1) v : Int)), ii (max lv (ar + (vlv (e + 1) v : Int))), ii (m : Int), ii vm_, zz rw_, ro, va, ii nu, ii vu])) dm_X5_askFlat_156 (g_put (fs' := [ii vb, ii f, .ref nq, ii (sz + (vsz (e + 1) v : Int)), ii (max lv (ar + (vlv (e + 1) v : Int))), ii (m : Int), ii vm_, zz rw_, ro, va, ii nu, ii vu]) (hl_set (hl_lt (hl_ne (by omega) (hl_set (hl_lt ho))))) rfl (by rw [List.set_set]) rfl (by simp) rfl (by decide) (fun z => by cases z) (by omega)) rfl rfl rfl ?_
          refine me1 (pc' := 160) (L' := [(0, .ref o), (1, .ref p), (2, .ref q), (3, ii ar), (4, .ref p), (5, ii (vq v : Int)), (6, ii (k : Int))]) (S' := [.ref o]) dm_X5_askFlat_159 rfl rfl rfl rfl ?_
          refine me1 (pc' := 161) (L' := [(0, .ref o), (1, .ref p), (2, .ref q), (3, ii ar), (4, .ref p), (5, ii (vq v : Int)), (6, ii (k : Int))]) (S' := [.ref o, .ref o]) dm_X5_askFlat_160 rfl rfl rfl rfl ?_
          refine me3 (pc' := 164) (S' := [zz rw_, .ref o]) dm_X5_askFlat_161 (g_get (v := zz rw_) (hl_set (hl_lt (hl_ne (by omega) (hl_set (hl_lt ho))))) rfl rfl (by omega)) rfl rfl rfl ?_
          refine y_zne (c := rw_) (t := 180) (pc' := 167) dm_X5_askFlat_164 rfl rfl (fun hb3 => ?_) (fun hb3 => ?_)
          · refine me0 (pc' := 181) (S' := [ii 1, .ref o]) dm_X5_askFlat_180 rfl rfl rfl rfl ?_
            refine me2 (pc' := 185) (S' := [ii 1, .ref o]) dm_X5_askFlat_181 rfl rfl rfl ?_
            refine me3 (pc' := 188) (S' := []) (h1 := (((h).set o (cO 5 [ii vb, ii f, .ref nq, ii sz, ii lv, ii (m : Int), ii vm_, zz rw_, ro, va, ii nu, ii vu])).set nq (cJ 1000 N)).set o (cO 5 [ii vb, ii f, .ref nq, ii (sz + (vsz (e + 1) v : Int)), ii (max lv (ar + (vlv (e + 1) v : Int))), ii (m : Int), ii vm_, ii 1, ro, va, ii nu, ii vu])) dm_X5_askFlat_185 (g_put (fs' := [ii vb, ii f, .ref nq, ii (sz + (vsz (e + 1) v : Int)), ii (max lv (ar + (vlv (e + 1) v : Int))), ii (m : Int), ii vm_, ii 1, ro, va, ii nu, ii vu]) (hl_set (hl_lt (hl_ne (by omega) (hl_set (hl_lt ho))))) rfl (by rw [List.set_set]) rfl (by simp) rfl (by decide) (fun z => by cases z) (by omega)) rfl rfl rfl ?_
            refine y_ret (r := none) dm_X5_askFlat_188 rfl rfl rfl ?_
            obtain ⟨hE1, hE2⟩ := flN_m hN hk (by first | (exact Or.inl (by omega)) | (exact Or.inr (by rw [← hfe]; omega)))
            refine ⟨rfl, m, N, ?_, hm1, hE2⟩
            have hr : (rw_ || decide (0 < vq v ∧ ¬ vk v ≤ 1)) = true := by first | (rw [(by assumption : rw_ = true)]; rfl) | (rw [(by assumption : rw_ = false), Bool.false_or]; exact decide_eq_true (by omega))
            rw [hr, ← hE1, ← hfe, setoq (by omega)]; unfold PO; rw [zzT]
          · refine me1 (pc' := 169) (L' := [(0, .ref o), (1, .ref p), (2, .ref q), (3, ii ar), (4, .ref p), (5, ii (vq v : Int)), (6, ii (k : Int))]) (S' := [ii (vq v : Int), .ref o]) dm_X5_askFlat_167 rfl rfl rfl rfl ?_
            refine y_1le (a := (vq v : Int)) (t := 184) (pc' := 172) dm_X5_askFlat_169 rfl rfl (by omega) (fun hb4 => ?_) (fun hb4 => ?_)
            · refine me0 (pc' := 185) (S' := [ii 0, .ref o]) dm_X5_askFlat_184 rfl rfl rfl rfl ?_
              refine me3 (pc' := 188) (S' := []) (h1 := (((h).set o (cO 5 [ii vb, ii f, .ref nq, ii sz, ii lv, ii (m : Int), ii vm_, zz rw_, ro, va, ii nu, ii vu])).set nq (cJ 1000 N)).set o (cO 5 [ii vb, ii f, .ref nq, ii (sz + (vsz (e + 1) v : Int)), ii (max lv (ar + (vlv (e + 1) v : Int))), ii (m : Int), ii vm_, ii 0, ro, va, ii nu, ii vu])) dm_X5_askFlat_185 (g_put (fs' := [ii vb, ii f, .ref nq, ii (sz + (vsz (e + 1) v : Int)), ii (max lv (ar + (vlv (e + 1) v : Int))), ii (m : Int), ii vm_, ii 0, ro, va, ii nu, ii vu]) (hl_set (hl_lt (hl_ne (by omega) (hl_set (hl_lt ho))))) rfl (by rw [List.set_set]) rfl (by simp) rfl (by decide) (fun z => by cases z) (by omega)) rfl rfl rfl ?_
              refine y_ret (r := none) dm_X5_askFlat_188 rfl rfl rfl ?_
              obtain ⟨hE1, hE2⟩ := flN_m hN hk (by first | (exact Or.inl (by omega)) | (exact Or.inr (by rw [← hfe]; omega)))
              refine ⟨rfl, m, N, ?_, hm1, hE2⟩
              have hr : (rw_ || decide (0 < vq v ∧ ¬ vk v ≤ 1)) = false := by first | (rw [(by assumption : rw_ = true)]; rfl) | (rw [(by assumption : rw_ = false), Bool.false_or]; exact decide_eq_false (by omega))
              rw [hr, ← hE1, ← hfe, setoq (by omega)]; unfold PO; rw [zzF]
            · refine me1 (pc' := 174) (L' := [(0, .ref o), (1, .ref p), (2, .ref q), (3, ii ar), (4, .ref p), (5, ii (vq v : Int)), (6, ii (k : Int))]) (S' := [.ref p, .ref o]) dm_X5_askFlat_172 rfl rfl rfl rfl ?_
              refine x_cp (pc' := 177) (v := zz (decide (vk v ≤ 1))) (rest := [.ref o]) dm_X5_askFlat_174 rfl (g_inv (As := []) (S := [.ref o]) (hl_ne (by omega) (hl_ne (by omega) (hl_ne (by omega) hp))) rfl rfl rfl (by omega)) rfl rfl rfl (c_isOne (by omega) (cv_set (nA hA (Or.inl (by omega))) (cv_set (nA hA (Or.inl (by omega))) (cv_set (nA hA (Or.inl (by omega))) hv)))) ?_
              refine y_zne (c := decide (vk v ≤ 1)) (t := 184) (pc' := 180) dm_X5_askFlat_177 rfl rfl (fun hb5 => ?_) (fun hb5 => ?_)
              · replace hb5 := dT hb5
                refine me0 (pc' := 185) (S' := [ii 0, .ref o]) dm_X5_askFlat_184 rfl rfl rfl rfl ?_
                refine me3 (pc' := 188) (S' := []) (h1 := (((h).set o (cO 5 [ii vb, ii f, .ref nq, ii sz, ii lv, ii (m : Int), ii vm_, zz rw_, ro, va, ii nu, ii vu])).set nq (cJ 1000 N)).set o (cO 5 [ii vb, ii f, .ref nq, ii (sz + (vsz (e + 1) v : Int)), ii (max lv (ar + (vlv (e + 1) v : Int))), ii (m : Int), ii vm_, ii 0, ro, va, ii nu, ii vu])) dm_X5_askFlat_185 (g_put (fs' := [ii vb, ii f, .ref nq, ii (sz + (vsz (e + 1) v : Int)), ii (max lv (ar + (vlv (e + 1) v : Int))), ii (m : Int), ii vm_, ii 0, ro, va, ii nu, ii vu]) (hl_set (hl_lt (hl_ne (by omega) (hl_set (hl_lt ho))))) rfl (by rw [List.set_set]) rfl (by simp) rfl (by decide) (fun z => by cases z) (by omega)) rfl rfl rfl ?_
                refine y_ret (r := none) dm_X5_askFlat_188 rfl rfl rfl ?_
                obtain ⟨hE1, hE2⟩ := flN_m hN hk (by first | (exact Or.inl (by omega)) | (exact Or.inr (by rw [← hfe]; omega)))
                refine ⟨rfl, m, N, ?_, hm1, hE2⟩
                have hr : (rw_ || decide (0 < vq v ∧ ¬ vk v ≤ 1)) = false := by first | (rw [(by assumption : rw_ = true)]; rfl) | (rw [(by assumption : rw_ = false), Bool.false_or]; exact decide_eq_false (by omega))
                rw [hr, ← hE1, ← hfe, setoq (by omega)]; unfold PO; rw [zzF]
              · replace hb5 := dF hb5
                refine me0 (pc' := 181) (S' := [ii 1, .ref o]) dm_X5_askFlat_180 rfl rfl rfl rfl ?_
                refine me2 (pc' := 185) (S' := [ii 1, .ref o]) dm_X5_askFlat_181 rfl rfl rfl ?_
                refine me3 (pc' := 188) (S' := []) (h1 := (((h).set o (cO 5 [ii vb, ii f, .ref nq, ii sz, ii lv, ii (m : Int), ii vm_, zz rw_, ro, va, ii nu, ii vu])).set nq (cJ 1000 N)).set o (cO 5 [ii vb, ii f, .ref nq, ii (sz + (vsz (e + 1) v : Int)), ii (max lv (ar + (vlv (e + 1) v : Int))), ii (m : Int), ii vm_, ii 1, ro, va, ii nu, ii vu])) dm_X5_askFlat_185 (g_put (fs' := [ii vb, ii f, .ref nq, ii (sz + (vsz (e + 1) v : Int)), ii (max lv (ar + (vlv (e + 1) v : Int))), ii (m : Int), ii vm_, ii 1, ro, va, ii nu, ii vu]) (hl_set (hl_lt (hl_ne (by omega) (hl_set (hl_lt ho))))) rfl (by rw [List.set_set]) rfl (by simp) rfl (by decide) (fun z => by cases z) (by omega)) rfl rfl rfl ?_
                refine y_ret (r := none) dm_X5_askFlat_188 rfl rfl rfl ?_
                obtain ⟨hE1, hE2⟩ := flN_m hN hk (by first | (exact Or.inl (by omega)) | (exact Or.inr (by rw [← hfe]; omega)))
                refine ⟨rfl, m, N, ?_, hm1, hE2⟩
                have hr : (rw_ || decide (0 < vq v ∧ ¬ vk v ≤ 1)) = true := by first | (rw [(by assumption : rw_ = true)]; rfl) | (rw [(by assumption : rw_ = false), Bool.false_or]; exact decide_eq_true (by omega))
                rw [hr, ← hE1, ← hfe, setoq (by omega)]; unfold PO; rw [zzT]
        · refine me1 (pc' := 41) (L' := [(0, .ref o), (1, .ref p), (2, .ref q), (3, ii ar), (4, .ref p), (5, ii (vq v : Int)), (6, ii (k : Int))]) (S' := [.ref o]) dm_X5_askFlat_40 rfl rfl rfl rfl ?_
          refine me3 (pc' := 44) (S' := [ii f]) dm_X5_askFlat_41 (g_get (v := ii f) (hl_ne (by omega) (hl_set (hl_lt ho))) rfl rfl (by omega)) rfl rfl rfl ?_
          refine y_1ne (a := f) (t := 127) (pc' := 47) dm_X5_askFlat_44 rfl rfl (by omega) (fun hb6 => ?_) (fun hb6 => ?_)
          · refine me1 (pc' := 128) (L' := [(0, .ref o), (1, .ref p), (2, .ref q), (3, ii ar), (4, .ref p), (5, ii (vq v : Int)), (6, ii (k : Int))]) (S' := [.ref o]) dm_X5_askFlat_127 rfl rfl rfl rfl ?_
            refine me0 (pc' := 129) (S' := [.ref o, .ref o]) dm_X5_askFlat_128 rfl rfl rfl rfl ?_
            refine me3 (pc' := 132) (S' := [ii sz, .ref o]) dm_X5_askFlat_129 (g_get (v := ii sz) (hl_ne (by omega) (hl_set (hl_lt ho))) rfl rfl (by omega)) rfl rfl rfl ?_
            refine me1 (pc' := 134) (L' := [(0, .ref o), (1, .ref p), (2, .ref q), (3, ii ar), (4, .ref p), (5, ii (vq v : Int)), (6, ii (k : Int))]) (S' := [.ref p, ii sz, .ref o]) dm_X5_askFlat_132 rfl rfl rfl rfl ?_
            refine me3 (pc' := 137) (S' := [ii (vsz (e + 1) v : Int), ii sz, .ref o]) dm_X5_askFlat_134 (g_get (v := ii (vsz (e + 1) v : Int)) (hl_ne (by omega) (hl_ne (by omega) hp)) rfl rfl (by omega)) rfl rfl rfl ?_
            refine y_iadd (a := sz) (b := (vsz (e + 1) v : Int)) dm_X5_askFlat_137 (pc' := 138) rfl ?_
            refine me3 (pc' := 141) (S' := []) (h1 := (((h).set o (cO 5 [ii vb, ii f, .ref nq, ii sz, ii lv, ii (m : Int), ii vm_, zz rw_, ro, va, ii nu, ii vu])).set nq (cJ 1000 N)).set o (cO 5 [ii vb, ii f, .ref nq, ii (sz + (vsz (e + 1) v : Int)), ii lv, ii (m : Int), ii vm_, zz rw_, ro, va, ii nu, ii vu])) dm_X5_askFlat_138 (g_put (fs' := [ii vb, ii f, .ref nq, ii (sz + (vsz (e + 1) v : Int)), ii lv, ii (m : Int), ii vm_, zz rw_, ro, va, ii nu, ii vu]) (hl_ne (by omega) (hl_set (hl_lt ho))) rfl rfl rfl (by simp) rfl (by decide) (fun z => by cases z) (by omega)) rfl rfl rfl ?_
            refine me1 (pc' := 142) (L' := [(0, .ref o), (1, .ref p), (2, .ref q), (3, ii ar), (4, .ref p), (5, ii (vq v : Int)), (6, ii (k : Int))]) (S' := [.ref o]) dm_X5_askFlat_141 rfl rfl rfl rfl ?_
            refine me1 (pc' := 143) (L' := [(0, .ref o), (1, .ref p), (2, .ref q), (3, ii ar), (4, .ref p), (5, ii (vq v : Int)), (6, ii (k : Int))]) (S' := [.ref o, .ref o]) dm_X5_askFlat_142 rfl rfl rfl rfl ?_
            refine me3 (pc' := 146) (S' := [ii lv, .ref o]) dm_X5_askFlat_143 (g_get (v := ii lv) (hl_set (hl_lt (hl_ne (by omega) (hl_set (hl_lt ho))))) rfl rfl (by omega)) rfl rfl rfl ?_
            refine me1 (pc' := 147) (L' := [(0, .ref o), (1, .ref p), (2, .ref q), (3, ii ar), (4, .ref p), (5, ii (vq v : Int)), (6, ii (k : Int))]) (S' := [ii ar, ii lv, .ref o]) dm_X5_askFlat_146 rfl rfl rfl rfl ?_
            refine me1 (pc' := 149) (L' := [(0, .ref o), (1, .ref p), (2, .ref q), (3, ii ar), (4, .ref p), (5, ii (vq v : Int)), (6, ii (k : Int))]) (S' := [.ref p, ii ar, ii lv, .ref o]) dm_X5_askFlat_147 rfl rfl rfl rfl ?_
            refine me3 (pc' := 152) (S' := [ii (vlv (e + 1) v : Int), ii ar, ii lv, .ref o]) dm_X5_askFlat_149 (g_get (v := ii (vlv (e + 1) v : Int)) (hl_ne (by omega) (hl_ne (by omega) (hl_ne (by omega) hp))) rfl rfl (by omega)) rfl rfl rfl ?_
            refine y_iadd (a := ar) (b := (vlv (e + 1) v : Int)) dm_X5_askFlat_152 (pc' := 153) rfl ?_
            refine y_pr (i := .iadd) (pc' := 156) (S' := [ii (max lv (ar + (vlv (e + 1) v : Int))), .ref o]) dm_X5_askFlat_153 rfl (p_imax (by omega) (by omega) (by omega) (by omega) rfl) (by omega) rfl ?_
            refine me3 (pc' := 159) (S' := []) (h1 := (((h).set o (cO 5 [ii vb, ii f, .ref nq, ii sz, ii lv, ii (m : Int), ii vm_, zz rw_, ro, va, ii nu, ii vu])).set nq (cJ 1000 N)).set o (cO 5 [ii vb, ii f, .ref nq, ii (sz + (vsz (e + 1) v : Int)), ii (max lv (ar + (vlv (e + 1) v : Int))), ii (m : Int), ii vm_, zz rw_, ro, va, ii nu, ii vu])) dm_X5_askFlat_156 (g_put (fs' := [ii vb, ii f, .ref nq, ii (sz + (vsz (e + 1) v : Int)), ii (max lv (ar + (vlv (e + 1) v : Int))), ii (m : Int), ii vm_, zz rw_, ro, va, ii nu, ii vu]) (hl_set (hl_lt (hl_ne (by omega) (hl_set (hl_lt ho))))) rfl (by rw [List.set_set]) rfl (by simp) rfl (by decide) (fun z => by cases z) (by omega)) rfl rfl rfl ?_
            refine me1 (pc' := 160) (L' := [(0, .ref o), (1, .ref p), (2, .ref q), (3, ii ar), (4, .ref p), (5, ii (vq v : Int)), (6, ii (k : Int))]) (S' := [.ref o]) dm_X5_askFlat_159 rfl rfl rfl rfl ?_
            refine me1 (pc' := 161) (L' := [(0, .ref o), (1, .ref p), (2, .ref q), (3, ii ar), (4, .ref p), (5, ii (vq v : Int)), (6, ii (k : Int))]) (S' := [.ref o, .ref o]) dm_X5_askFlat_160 rfl rfl rfl rfl ?_
            refine me3 (pc' := 164) (S' := [zz rw_, .ref o]) dm_X5_askFlat_161 (g_get (v := zz rw_) (hl_set (hl_lt (hl_ne (by omega) (hl_set (hl_lt ho))))) rfl rfl (by omega)) rfl rfl rfl ?_
            refine y_zne (c := rw_) (t := 180) (pc' := 167) dm_X5_askFlat_164 rfl rfl (fun hb7 => ?_) (fun hb7 => ?_)
            · refine me0 (pc' := 181) (S' := [ii 1, .ref o]) dm_X5_askFlat_180 rfl rfl rfl rfl ?_
              refine me2 (pc' := 185) (S' := [ii 1, .ref o]) dm_X5_askFlat_181 rfl rfl rfl ?_
              refine me3 (pc' := 188) (S' := []) (h1 := (((h).set o (cO 5 [ii vb, ii f, .ref nq, ii sz, ii lv, ii (m : Int), ii vm_, zz rw_, ro, va, ii nu, ii vu])).set nq (cJ 1000 N)).set o (cO 5 [ii vb, ii f, .ref nq, ii (sz + (vsz (e + 1) v : Int)), ii (max lv (ar + (vlv (e + 1) v : Int))), ii (m : Int), ii vm_, ii 1, ro, va, ii nu, ii vu])) dm_X5_askFlat_185 (g_put (fs' := [ii vb, ii f, .ref nq, ii (sz + (vsz (e + 1) v : Int)), ii (max lv (ar + (vlv (e + 1) v : Int))), ii (m : Int), ii vm_, ii 1, ro, va, ii nu, ii vu]) (hl_set (hl_lt (hl_ne (by omega) (hl_set (hl_lt ho))))) rfl (by rw [List.set_set]) rfl (by simp) rfl (by decide) (fun z => by cases z) (by omega)) rfl rfl rfl ?_
              refine y_ret (r := none) dm_X5_askFlat_188 rfl rfl rfl ?_
              obtain ⟨hE1, hE2⟩ := flN_m hN hk (by first | (exact Or.inl (by omega)) | (exact Or.inr (by rw [← hfe]; omega)))
              refine ⟨rfl, m, N, ?_, hm1, hE2⟩
              have hr : (rw_ || decide (0 < vq v ∧ ¬ vk v ≤ 1)) = true := by first | (rw [(by assumption : rw_ = true)]; rfl) | (rw [(by assumption : rw_ = false), Bool.false_or]; exact decide_eq_true (by omega))
              rw [hr, ← hE1, ← hfe, setoq (by omega)]; unfold PO; rw [zzT]
            · refine me1 (pc' := 169) (L' := [(0, .ref o), (1, .ref p), (2, .ref q), (3, ii ar), (4, .ref p), (5, ii (vq v : Int)), (6, ii (k : Int))]) (S' := [ii (vq v : Int), .ref o]) dm_X5_askFlat_167 rfl rfl rfl rfl ?_
              refine y_1le (a := (vq v : Int)) (t := 184) (pc' := 172) dm_X5_askFlat_169 rfl rfl (by omega) (fun hb8 => ?_) (fun hb8 => ?_)
              · refine me0 (pc' := 185) (S' := [ii 0, .ref o]) dm_X5_askFlat_184 rfl rfl rfl rfl ?_
                refine me3 (pc' := 188) (S' := []) (h1 := (((h).set o (cO 5 [ii vb, ii f, .ref nq, ii sz, ii lv, ii (m : Int), ii vm_, zz rw_, ro, va, ii nu, ii vu])).set nq (cJ 1000 N)).set o (cO 5 [ii vb, ii f, .ref nq, ii (sz + (vsz (e + 1) v : Int)), ii (max lv (ar + (vlv (e + 1) v : Int))), ii (m : Int), ii vm_, ii 0, ro, va, ii nu, ii vu])) dm_X5_askFlat_185 (g_put (fs' := [ii vb, ii f, .ref nq, ii (sz + (vsz (e + 1) v : Int)), ii (max lv (ar + (vlv (e + 1) v : Int))), ii (m : Int), ii vm_, ii 0, ro, va, ii nu, ii vu]) (hl_set (hl_lt (hl_ne (by omega) (hl_set (hl_lt ho))))) rfl (by rw [List.set_set]) rfl (by simp) rfl (by decide) (fun z => by cases z) (by omega)) rfl rfl rfl ?_
                refine y_ret (r := none) dm_X5_askFlat_188 rfl rfl rfl ?_
                obtain ⟨hE1, hE2⟩ := flN_m hN hk (by first | (exact Or.inl (by omega)) | (exact Or.inr (by rw [← hfe]; omega)))
                refine ⟨rfl, m, N, ?_, hm1, hE2⟩
                have hr : (rw_ || decide (0 < vq v ∧ ¬ vk v ≤ 1)) = false := by first | (rw [(by assumption : rw_ = true)]; rfl) | (rw [(by assumption : rw_ = false), Bool.false_or]; exact decide_eq_false (by omega))
                rw [hr, ← hE1, ← hfe, setoq (by omega)]; unfold PO; rw [zzF]
              · refine me1 (pc' := 174) (L' := [(0, .ref o), (1, .ref p), (2, .ref q), (3, ii ar), (4, .ref p), (5, ii (vq v : Int)), (6, ii (k : Int))]) (S' := [.ref p, .ref o]) dm_X5_askFlat_172 rfl rfl rfl rfl ?_
                refine x_cp (pc' := 177) (v := zz (decide (vk v ≤ 1))) (rest := [.ref o]) dm_X5_askFlat_174 rfl (g_inv (As := []) (S := [.ref o]) (hl_ne (by omega) (hl_ne (by omega) (hl_ne (by omega) hp))) rfl rfl rfl (by omega)) rfl rfl rfl (c_isOne (by omega) (cv_set (nA hA (Or.inl (by omega))) (cv_set (nA hA (Or.inl (by omega))) (cv_set (nA hA (Or.inl (by omega))) hv)))) ?_
                refine y_zne (c := decide (vk v ≤ 1)) (t := 184) (pc' := 180) dm_X5_askFlat_177 rfl rfl (fun hb9 => ?_) (fun hb9 => ?_)
                · replace hb9 := dT hb9
                  refine me0 (pc' := 185) (S' := [ii 0, .ref o]) dm_X5_askFlat_184 rfl rfl rfl rfl ?_
                  refine me3 (pc' := 188) (S' := []) (h1 := (((h).set o (cO 5 [ii vb, ii f, .ref nq, ii sz, ii lv, ii (m : Int), ii vm_, zz rw_, ro, va, ii nu, ii vu])).set nq (cJ 1000 N)).set o (cO 5 [ii vb, ii f, .ref nq, ii (sz + (vsz (e + 1) v : Int)), ii (max lv (ar + (vlv (e + 1) v : Int))), ii (m : Int), ii vm_, ii 0, ro, va, ii nu, ii vu])) dm_X5_askFlat_185 (g_put (fs' := [ii vb, ii f, .ref nq, ii (sz + (vsz (e + 1) v : Int)), ii (max lv (ar + (vlv (e + 1) v : Int))), ii (m : Int), ii vm_, ii 0, ro, va, ii nu, ii vu]) (hl_set (hl_lt (hl_ne (by omega) (hl_set (hl_lt ho))))) rfl (by rw [List.set_set]) rfl (by simp) rfl (by decide) (fun z => by cases z) (by omega)) rfl rfl rfl ?_
                  refine y_ret (r := none) dm_X5_askFlat_188 rfl rfl rfl ?_
                  obtain ⟨hE1, hE2⟩ := flN_m hN hk (by first | (exact Or.inl (by omega)) | (exact Or.inr (by rw [← hfe]; omega)))
                  refine ⟨rfl, m, N, ?_, hm1, hE2⟩
                  have hr : (rw_ || decide (0 < vq v ∧ ¬ vk v ≤ 1)) = false := by first | (rw [(by assumption : rw_ = true)]; rfl) | (rw [(by assumption : rw_ = false), Bool.false_or]; exact decide_eq_false (by omega))
                  rw [hr, ← hE1, ← hfe, setoq (by omega)]; unfold PO; rw [zzF]
                · replace hb9 := dF hb9
                  refine me0 (pc' := 181) (S' := [ii 1, .ref o]) dm_X5_askFlat_180 rfl rfl rfl rfl ?_
                  refine me2 (pc' := 185) (S' := [ii 1, .ref o]) dm_X5_askFlat_181 rfl rfl rfl ?_
                  refine me3 (pc' := 188) (S' := []) (h1 := (((h).set o (cO 5 [ii vb, ii f, .ref nq, ii sz, ii lv, ii (m : Int), ii vm_, zz rw_, ro, va, ii nu, ii vu])).set nq (cJ 1000 N)).set o (cO 5 [ii vb, ii f, .ref nq, ii (sz + (vsz (e + 1) v : Int)), ii (max lv (ar + (vlv (e + 1) v : Int))), ii (m : Int), ii vm_, ii 1, ro, va, ii nu, ii vu])) dm_X5_askFlat_185 (g_put (fs' := [ii vb, ii f, .ref nq, ii (sz + (vsz (e + 1) v : Int)), ii (max lv (ar + (vlv (e + 1) v : Int))), ii (m : Int), ii vm_, ii 1, ro, va, ii nu, ii vu]) (hl_set (hl_lt (hl_ne (by omega) (hl_set (hl_lt ho))))) rfl (by rw [List.set_set]) rfl (by simp) rfl (by decide) (fun z => by cases z) (by omega)) rfl rfl rfl ?_
                  refine y_ret (r := none) dm_X5_askFlat_188 rfl rfl rfl ?_
                  obtain ⟨hE1, hE2⟩ := flN_m hN hk (by first | (exact Or.inl (by omega)) | (exact Or.inr (by rw [← hfe]; omega)))
                  refine ⟨rfl, m, N, ?_, hm1, hE2⟩
                  have hr : (rw_ || decide (0 < vq v ∧ ¬ vk v ≤ 1)) = true := by first | (rw [(by assumption : rw_ = true)]; rfl) | (rw [(by assumption : rw_ = false), Bool.false_or]; exact decide_eq_true (by omega))
                  rw [hr, ← hE1, ← hfe, setoq (by omega)]; unfold PO; rw [zzT]
          · refine me1 (pc' := 48) (L' := [(0, .ref o), (1, .ref p), (2, .ref q), (3, ii ar), (4, .ref p), (5, ii (vq v : Int)), (6, ii (k : Int))]) (S' := [.ref o]) dm_X5_askFlat_47 rfl rfl rfl rfl ?_
            refine me1 (pc' := 49) (L' := [(0, .ref o), (1, .ref p), (2, .ref q), (3, ii ar), (4, .ref p), (5, ii (vq v : Int)), (6, ii (k : Int))]) (S' := [.ref p, .ref o]) dm_X5_askFlat_48 rfl rfl rfl rfl ?_
            refine me1 (pc' := 50) (L' := [(0, .ref o), (1, .ref p), (2, .ref q), (3, ii ar), (4, .ref p), (5, ii (vq v : Int)), (6, ii (k : Int))]) (S' := [.ref q, .ref p, .ref o]) dm_X5_askFlat_49 rfl rfl rfl rfl ?_
            refine me1 (pc' := 52) (L' := [(0, .ref o), (1, .ref p), (2, .ref q), (3, ii ar), (4, .ref p), (5, ii (vq v : Int)), (6, ii (k : Int))]) (S' := [ii (k : Int), .ref q, .ref p, .ref o]) dm_X5_askFlat_50 rfl rfl rfl rfl ?_
            have hor := outF_r vb (vk v) (vk w) (vnum v (k : Int)) (vnum w (k : Int))
            have hf0 : f = 0 := by omega
            refine x_cv (pc' := 55) (rest := []) dm_X5_askFlat_52 rfl (g_inv (As := [.ref p, .ref q, ii (k : Int)]) (S := []) (hl_ne (by omega) (hl_set (hl_lt ho))) rfl rfl rfl (by omega)) rfl rfl rfl (p_outcome (i := (k : Int)) (o := o) (nq := nq) (vb := vb) hx1 (by omega) (cv_set (nA hA (Or.inl (by omega))) (cv_set (nA hA (Or.inl (by omega))) hv)) (cv_set (nA hA (Or.inl (by omega))) (cv_set (nA hA (Or.inl (by omega))) hw)) (by omega) (by omega) (show (((h).set o (cO 5 [ii vb, ii f, .ref nq, ii sz, ii lv, ii (m : Int), ii vm_, zz rw_, ro, va, ii nu, ii vu])).set nq (cJ 1000 N))[o]? = some (PO vb 0 nq sz lv (m : Int) vm_ rw_ ro va nu vu) by rw [hf0]; exact hl_ne (by omega) (hl_set (hl_lt ho))) hvb) ?_
            rintro x h2 hres
            obtain ⟨rfl, rfl⟩ := hres
            refine me1 (pc' := 57) (L' := [(7, .long ((outF vb (vk v) (vk w) (vnum v (k : Int)) (vnum w (k : Int))).2)), (0, .ref o), (1, .ref p), (2, .ref q), (3, ii ar), (4, .ref p), (5, ii (vq v : Int)), (6, ii (k : Int))]) (S' := []) dm_X5_askFlat_55 rfl rfl rfl rfl ?_
            refine me1 (pc' := 58) (L' := [(7, .long ((outF vb (vk v) (vk w) (vnum v (k : Int)) (vnum w (k : Int))).2)), (0, .ref o), (1, .ref p), (2, .ref q), (3, ii ar), (4, .ref p), (5, ii (vq v : Int)), (6, ii (k : Int))]) (S' := [.ref o]) dm_X5_askFlat_57 rfl rfl rfl rfl ?_
            refine me3 (pc' := 61) (S' := [ii ((outF vb (vk v) (vk w) (vnum v (k : Int)) (vnum w (k : Int))).1)]) dm_X5_askFlat_58 (g_get (v := ii ((outF vb (vk v) (vk w) (vnum v (k : Int)) (vnum w (k : Int))).1)) (hl_set (hl_lt (hl_ne (by omega) (hl_set (hl_lt ho))))) rfl rfl (by omega)) rfl rfl rfl ?_
            refine y_1ne (a := (outF vb (vk v) (vk w) (vnum v (k : Int)) (vnum w (k : Int))).1) (t := 88) (pc' := 64) dm_X5_askFlat_61 rfl rfl (by omega) (fun hb10 => ?_) (fun hb10 => ?_)
            · refine pg_cast (h2 := ((h).set o (cO 5 [ii vb, ii ((outF vb (vk v) (vk w) (vnum v (k : Int)) (vnum w (k : Int))).1), .ref nq, ii sz, ii lv, ii (m : Int), ii vm_, zz rw_, ro, va, ii nu, ii vu])).set nq (cJ 1000 N)) (setoq (by omega)) ?_
              refine me1 (pc' := 89) (L' := [(7, .long ((outF vb (vk v) (vk w) (vnum v (k : Int)) (vnum w (k : Int))).2)), (0, .ref o), (1, .ref p), (2, .ref q), (3, ii ar), (4, .ref p), (5, ii (vq v : Int)), (6, ii (k : Int))]) (S' := [.ref o]) dm_X5_askFlat_88 rfl rfl rfl rfl ?_
              refine me3 (pc' := 92) (S' := [ii (m : Int)]) dm_X5_askFlat_89 (g_get (v := ii (m : Int)) (hl_ne (by omega) (hl_set (hl_lt ho))) rfl rfl (by omega)) rfl rfl rfl ?_
              refine me1 (pc' := 93) (L' := [(7, .long ((outF vb (vk v) (vk w) (vnum v (k : Int)) (vnum w (k : Int))).2)), (0, .ref o), (1, .ref p), (2, .ref q), (3, ii ar), (4, .ref p), (5, ii (vq v : Int)), (6, ii (k : Int))]) (S' := [.ref o, ii (m : Int)]) dm_X5_askFlat_92 rfl rfl rfl rfl ?_
              refine me3 (pc' := 96) (S' := [.ref nq, ii (m : Int)]) dm_X5_askFlat_93 (g_get (v := .ref nq) (hl_ne (by omega) (hl_set (hl_lt ho))) rfl rfl (by omega)) rfl rfl rfl ?_
              refine me3 (pc' := 97) (S' := [ii 1000, ii (m : Int)]) dm_X5_askFlat_96 (yh_len (n := 1000) rfl (hl_set (hl_lt (hl_ne (by omega) hnq))) (by omega)) rfl rfl rfl ?_
              refine y_2ge (a := (m : Int)) (b := 1000) (t := 121) (pc' := 100) dm_X5_askFlat_97 rfl rfl (by omega) (fun hb11 => ?_) (fun hb11 => ?_)
              · have hT : (outT vb v w v k).1 = (outF vb (vk v) (vk w) (vnum v (k : Int)) (vnum w (k : Int))).1 := outT_1 (fun z => by obtain ⟨z1, z2, z3⟩ := z; first | (have z4 : fitsB (outF vb (vk v) (vk w) (vnum v (k : Int)) (vnum w (k : Int))).2 = true := (by assumption); rw [z3] at z4; cases z4) | omega)
                refine y_iinc (pc' := 124) (L' := [(6, ii ((k : Int) + 1)), (7, .long ((outF vb (vk v) (vk w) (vnum v (k : Int)) (vnum w (k : Int))).2)), (0, .ref o), (1, .ref p), (2, .ref q), (3, ii ar), (4, .ref p), (5, ii (vq v : Int))]) dm_X5_askFlat_121 (y_incp (a := (k : Int)) (c := 1) rfl rfl (by decide)) rfl ?_
                refine me2 (pc' := 33) (S' := []) dm_X5_askFlat_124 rfl rfl rfl ?_
                refine pg_cast (h2 := ((h).set o (cO 5 [ii vb, ii ((outT vb v w v k).1), .ref nq, ii sz, ii lv, ii (m : Int), ii vm_, zz rw_, ro, va, ii nu, ii vu])).set nq (cJ 1000 N)) (by rw [hT]) ?_
                exact pg_sub (L := [(0, .ref o), (1, .ref p), (2, .ref q), (3, ii ar), (4, .ref p), (5, ii (vq v : Int)), (6, ii ((k + 1) : Int))]) rfl rfl rfl (ih33 (vq v - (k + 1)) (by omega) (k + 1) m N ((outT vb v w v k).1) rfl (by omega) (by omega) (by rw [hT]; omega) (by rw [flE_s (by rw [← hfe]; omega)]) (flN_t hN (by rw [← hfe]; omega) (by omega)))
              · refine me1 (pc' := 101) (L' := [(7, .long ((outF vb (vk v) (vk w) (vnum v (k : Int)) (vnum w (k : Int))).2)), (0, .ref o), (1, .ref p), (2, .ref q), (3, ii ar), (4, .ref p), (5, ii (vq v : Int)), (6, ii (k : Int))]) (S' := [.ref o]) dm_X5_askFlat_100 rfl rfl rfl rfl ?_
                refine me3 (pc' := 104) (S' := [.ref nq]) dm_X5_askFlat_101 (g_get (v := .ref nq) (hl_ne (by omega) (hl_set (hl_lt ho))) rfl rfl (by omega)) rfl rfl rfl ?_
                refine me1 (pc' := 105) (L' := [(7, .long ((outF vb (vk v) (vk w) (vnum v (k : Int)) (vnum w (k : Int))).2)), (0, .ref o), (1, .ref p), (2, .ref q), (3, ii ar), (4, .ref p), (5, ii (vq v : Int)), (6, ii (k : Int))]) (S' := [.ref o, .ref nq]) dm_X5_askFlat_104 rfl rfl rfl rfl ?_
                refine me3 (pc' := 108) (S' := [ii (m : Int), .ref nq]) dm_X5_askFlat_105 (g_get (v := ii (m : Int)) (hl_ne (by omega) (hl_set (hl_lt ho))) rfl rfl (by omega)) rfl rfl rfl ?_
                refine me1 (pc' := 110) (L' := [(7, .long ((outF vb (vk v) (vk w) (vnum v (k : Int)) (vnum w (k : Int))).2)), (0, .ref o), (1, .ref p), (2, .ref q), (3, ii ar), (4, .ref p), (5, ii (vq v : Int)), (6, ii (k : Int))]) (S' := [.long ((outF vb (vk v) (vk w) (vnum v (k : Int)) (vnum w (k : Int))).2), ii (m : Int), .ref nq]) dm_X5_askFlat_108 rfl rfl rfl rfl ?_
                refine me3 (pc' := 111) (S' := []) (h1 := ((h).set o (cO 5 [ii vb, ii ((outF vb (vk v) (vk w) (vnum v (k : Int)) (vnum w (k : Int))).1), .ref nq, ii sz, ii lv, ii (m : Int), ii vm_, zz rw_, ro, va, ii nu, ii vu])).set nq (cJ 1000 (va_up N m ((outF vb (vk v) (vk w) (vnum v (k : Int)) (vnum w (k : Int))).2)))) dm_X5_askFlat_110 (y_hs (yh_last (j := (m : Int)) (hl_set (hl_lt (hl_ne (by omega) hnq))) (by omega) (by omega) (by omega) (by omega)) (by rw [show (m : Int).toNat = m from rfl]; rw [List.set_set])) rfl rfl rfl ?_
                refine me1 (pc' := 112) (L' := [(7, .long ((outF vb (vk v) (vk w) (vnum v (k : Int)) (vnum w (k : Int))).2)), (0, .ref o), (1, .ref p), (2, .ref q), (3, ii ar), (4, .ref p), (5, ii (vq v : Int)), (6, ii (k : Int))]) (S' := [.ref o]) dm_X5_askFlat_111 rfl rfl rfl rfl ?_
                refine me0 (pc' := 113) (S' := [.ref o, .ref o]) dm_X5_askFlat_112 rfl rfl rfl rfl ?_
                refine me3 (pc' := 116) (S' := [ii (m : Int), .ref o]) dm_X5_askFlat_113 (g_get (v := ii (m : Int)) (hl_ne (by omega) (hl_set (hl_lt ho))) rfl rfl (by omega)) rfl rfl rfl ?_
                refine me0 (pc' := 117) (S' := [ii 1, ii (m : Int), .ref o]) dm_X5_askFlat_116 rfl rfl rfl rfl ?_
                refine y_iadd (a := (m : Int)) (b := 1) dm_X5_askFlat_117 (pc' := 118) rfl ?_
                refine me3 (pc' := 121) (S' := []) (h1 := (((h).set o (cO 5 [ii vb, ii ((outF vb (vk v) (vk w) (vnum v (k : Int)) (vnum w (k : Int))).1), .ref nq, ii sz, ii lv, ii (m : Int), ii vm_, zz rw_, ro, va, ii nu, ii vu])).set nq (cJ 1000 (va_up N m ((outF vb (vk v) (vk w) (vnum v (k : Int)) (vnum w (k : Int))).2)))).set o (cO 5 [ii vb, ii ((outF vb (vk v) (vk w) (vnum v (k : Int)) (vnum w (k : Int))).1), .ref nq, ii sz, ii lv, ii ((m : Int) + 1), ii vm_, zz rw_, ro, va, ii nu, ii vu])) dm_X5_askFlat_118 (g_put (fs' := [ii vb, ii ((outF vb (vk v) (vk w) (vnum v (k : Int)) (vnum w (k : Int))).1), .ref nq, ii sz, ii lv, ii ((m : Int) + 1), ii vm_, zz rw_, ro, va, ii nu, ii vu]) (hl_ne (by omega) (hl_set (hl_lt ho))) rfl rfl rfl (by simp) rfl (by decide) (fun z => by cases z) (by omega)) rfl rfl rfl ?_
                have hT : (outT vb v w v k).1 = (outF vb (vk v) (vk w) (vnum v (k : Int)) (vnum w (k : Int))).1 := outT_1 (fun z => by obtain ⟨z1, z2, z3⟩ := z; first | (have z4 : fitsB (outF vb (vk v) (vk w) (vnum v (k : Int)) (vnum w (k : Int))).2 = true := (by assumption); rw [z3] at z4; cases z4) | omega)
                refine y_iinc (pc' := 124) (L' := [(6, ii ((k : Int) + 1)), (7, .long ((outF vb (vk v) (vk w) (vnum v (k : Int)) (vnum w (k : Int))).2)), (0, .ref o), (1, .ref p), (2, .ref q), (3, ii ar), (4, .ref p), (5, ii (vq v : Int))]) dm_X5_askFlat_121 (y_incp (a := (k : Int)) (c := 1) rfl rfl (by decide)) rfl ?_
                refine me2 (pc' := 33) (S' := []) dm_X5_askFlat_124 rfl rfl rfl ?_
                refine pg_cast (h2 := ((h).set o (cO 5 [ii vb, ii ((outT vb v w v k).1), .ref nq, ii sz, ii lv, ii ((m + 1) : Int), ii vm_, zz rw_, ro, va, ii nu, ii vu])).set nq (cJ 1000 (va_up N m (outT vb v w v k).2))) (by rw [hT, outT_2, setoq (by omega)]) ?_
                exact pg_sub (L := [(0, .ref o), (1, .ref p), (2, .ref q), (3, ii ar), (4, .ref p), (5, ii (vq v : Int)), (6, ii ((k + 1) : Int))]) rfl rfl rfl (ih33 (vq v - (k + 1)) (by omega) (k + 1) (m + 1) (va_up N m (outT vb v w v k).2) ((outT vb v w v k).1) rfl (by omega) (by omega) (by rw [hT]; omega) (by rw [flE_s (by rw [← hfe]; omega)]) (flN_s hN (by rw [← hfe]; omega) (by omega)))
            · refine me1 (pc' := 66) (L' := [(7, .long ((outF vb (vk v) (vk w) (vnum v (k : Int)) (vnum w (k : Int))).2)), (0, .ref o), (1, .ref p), (2, .ref q), (3, ii ar), (4, .ref p), (5, ii (vq v : Int)), (6, ii (k : Int))]) (S' := [.ref p]) dm_X5_askFlat_64 rfl rfl rfl rfl ?_
              refine me3 (pc' := 69) (S' := [ii (vk v : Int)]) dm_X5_askFlat_66 (g_get (v := ii (vk v : Int)) (hl_ne (by omega) (hl_ne (by omega) (hl_ne (by omega) hp))) rfl rfl (by omega)) rfl rfl rfl ?_
              refine me0 (pc' := 71) (S' := [ii 6, ii (vk v : Int)]) dm_X5_askFlat_69 rfl rfl rfl rfl ?_
              refine y_2ne (a := (vk v : Int)) (b := 6) (t := 88) (pc' := 74) dm_X5_askFlat_71 rfl rfl (by omega) (fun hb12 => ?_) (fun hb12 => ?_)
              · refine pg_cast (h2 := ((h).set o (cO 5 [ii vb, ii ((outF vb (vk v) (vk w) (vnum v (k : Int)) (vnum w (k : Int))).1), .ref nq, ii sz, ii lv, ii (m : Int), ii vm_, zz rw_, ro, va, ii nu, ii vu])).set nq (cJ 1000 N)) (setoq (by omega)) ?_
                refine me1 (pc' := 89) (L' := [(7, .long ((outF vb (vk v) (vk w) (vnum v (k : Int)) (vnum w (k : Int))).2)), (0, .ref o), (1, .ref p), (2, .ref q), (3, ii ar), (4, .ref p), (5, ii (vq v : Int)), (6, ii (k : Int))]) (S' := [.ref o]) dm_X5_askFlat_88 rfl rfl rfl rfl ?_
                refine me3 (pc' := 92) (S' := [ii (m : Int)]) dm_X5_askFlat_89 (g_get (v := ii (m : Int)) (hl_ne (by omega) (hl_set (hl_lt ho))) rfl rfl (by omega)) rfl rfl rfl ?_
                refine me1 (pc' := 93) (L' := [(7, .long ((outF vb (vk v) (vk w) (vnum v (k : Int)) (vnum w (k : Int))).2)), (0, .ref o), (1, .ref p), (2, .ref q), (3, ii ar), (4, .ref p), (5, ii (vq v : Int)), (6, ii (k : Int))]) (S' := [.ref o, ii (m : Int)]) dm_X5_askFlat_92 rfl rfl rfl rfl ?_
                refine me3 (pc' := 96) (S' := [.ref nq, ii (m : Int)]) dm_X5_askFlat_93 (g_get (v := .ref nq) (hl_ne (by omega) (hl_set (hl_lt ho))) rfl rfl (by omega)) rfl rfl rfl ?_
                refine me3 (pc' := 97) (S' := [ii 1000, ii (m : Int)]) dm_X5_askFlat_96 (yh_len (n := 1000) rfl (hl_set (hl_lt (hl_ne (by omega) hnq))) (by omega)) rfl rfl rfl ?_
                refine y_2ge (a := (m : Int)) (b := 1000) (t := 121) (pc' := 100) dm_X5_askFlat_97 rfl rfl (by omega) (fun hb13 => ?_) (fun hb13 => ?_)
                · have hT : (outT vb v w v k).1 = (outF vb (vk v) (vk w) (vnum v (k : Int)) (vnum w (k : Int))).1 := outT_1 (fun z => by obtain ⟨z1, z2, z3⟩ := z; first | (have z4 : fitsB (outF vb (vk v) (vk w) (vnum v (k : Int)) (vnum w (k : Int))).2 = true := (by assumption); rw [z3] at z4; cases z4) | omega)
                  refine y_iinc (pc' := 124) (L' := [(6, ii ((k : Int) + 1)), (7, .long ((outF vb (vk v) (vk w) (vnum v (k : Int)) (vnum w (k : Int))).2)), (0, .ref o), (1, .ref p), (2, .ref q), (3, ii ar), (4, .ref p), (5, ii (vq v : Int))]) dm_X5_askFlat_121 (y_incp (a := (k : Int)) (c := 1) rfl rfl (by decide)) rfl ?_
                  refine me2 (pc' := 33) (S' := []) dm_X5_askFlat_124 rfl rfl rfl ?_
                  refine pg_cast (h2 := ((h).set o (cO 5 [ii vb, ii ((outT vb v w v k).1), .ref nq, ii sz, ii lv, ii (m : Int), ii vm_, zz rw_, ro, va, ii nu, ii vu])).set nq (cJ 1000 N)) (by rw [hT]) ?_
                  exact pg_sub (L := [(0, .ref o), (1, .ref p), (2, .ref q), (3, ii ar), (4, .ref p), (5, ii (vq v : Int)), (6, ii ((k + 1) : Int))]) rfl rfl rfl (ih33 (vq v - (k + 1)) (by omega) (k + 1) m N ((outT vb v w v k).1) rfl (by omega) (by omega) (by rw [hT]; omega) (by rw [flE_s (by rw [← hfe]; omega)]) (flN_t hN (by rw [← hfe]; omega) (by omega)))
                · refine me1 (pc' := 101) (L' := [(7, .long ((outF vb (vk v) (vk w) (vnum v (k : Int)) (vnum w (k : Int))).2)), (0, .ref o), (1, .ref p), (2, .ref q), (3, ii ar), (4, .ref p), (5, ii (vq v : Int)), (6, ii (k : Int))]) (S' := [.ref o]) dm_X5_askFlat_100 rfl rfl rfl rfl ?_
                  refine me3 (pc' := 104) (S' := [.ref nq]) dm_X5_askFlat_101 (g_get (v := .ref nq) (hl_ne (by omega) (hl_set (hl_lt ho))) rfl rfl (by omega)) rfl rfl rfl ?_
                  refine me1 (pc' := 105) (L' := [(7, .long ((outF vb (vk v) (vk w) (vnum v (k : Int)) (vnum w (k : Int))).2)), (0, .ref o), (1, .ref p), (2, .ref q), (3, ii ar), (4, .ref p), (5, ii (vq v : Int)), (6, ii (k : Int))]) (S' := [.ref o, .ref nq]) dm_X5_askFlat_104 rfl rfl rfl rfl ?_
                  refine me3 (pc' := 108) (S' := [ii (m : Int), .ref nq]) dm_X5_askFlat_105 (g_get (v := ii (m : Int)) (hl_ne (by omega) (hl_set (hl_lt ho))) rfl rfl (by omega)) rfl rfl rfl ?_
                  refine me1 (pc' := 110) (L' := [(7, .long ((outF vb (vk v) (vk w) (vnum v (k : Int)) (vnum w (k : Int))).2)), (0, .ref o), (1, .ref p), (2, .ref q), (3, ii ar), (4, .ref p), (5, ii (vq v : Int)), (6, ii (k : Int))]) (S' := [.long ((outF vb (vk v) (vk w) (vnum v (k : Int)) (vnum w (k : Int))).2), ii (m : Int), .ref nq]) dm_X5_askFlat_108 rfl rfl rfl rfl ?_
                  refine me3 (pc' := 111) (S' := []) (h1 := ((h).set o (cO 5 [ii vb, ii ((outF vb (vk v) (vk w) (vnum v (k : Int)) (vnum w (k : Int))).1), .ref nq, ii sz, ii lv, ii (m : Int), ii vm_, zz rw_, ro, va, ii nu, ii vu])).set nq (cJ 1000 (va_up N m ((outF vb (vk v) (vk w) (vnum v (k : Int)) (vnum w (k : Int))).2)))) dm_X5_askFlat_110 (y_hs (yh_last (j := (m : Int)) (hl_set (hl_lt (hl_ne (by omega) hnq))) (by omega) (by omega) (by omega) (by omega)) (by rw [show (m : Int).toNat = m from rfl]; rw [List.set_set])) rfl rfl rfl ?_
                  refine me1 (pc' := 112) (L' := [(7, .long ((outF vb (vk v) (vk w) (vnum v (k : Int)) (vnum w (k : Int))).2)), (0, .ref o), (1, .ref p), (2, .ref q), (3, ii ar), (4, .ref p), (5, ii (vq v : Int)), (6, ii (k : Int))]) (S' := [.ref o]) dm_X5_askFlat_111 rfl rfl rfl rfl ?_
                  refine me0 (pc' := 113) (S' := [.ref o, .ref o]) dm_X5_askFlat_112 rfl rfl rfl rfl ?_
                  refine me3 (pc' := 116) (S' := [ii (m : Int), .ref o]) dm_X5_askFlat_113 (g_get (v := ii (m : Int)) (hl_ne (by omega) (hl_set (hl_lt ho))) rfl rfl (by omega)) rfl rfl rfl ?_
                  refine me0 (pc' := 117) (S' := [ii 1, ii (m : Int), .ref o]) dm_X5_askFlat_116 rfl rfl rfl rfl ?_
                  refine y_iadd (a := (m : Int)) (b := 1) dm_X5_askFlat_117 (pc' := 118) rfl ?_
                  refine me3 (pc' := 121) (S' := []) (h1 := (((h).set o (cO 5 [ii vb, ii ((outF vb (vk v) (vk w) (vnum v (k : Int)) (vnum w (k : Int))).1), .ref nq, ii sz, ii lv, ii (m : Int), ii vm_, zz rw_, ro, va, ii nu, ii vu])).set nq (cJ 1000 (va_up N m ((outF vb (vk v) (vk w) (vnum v (k : Int)) (vnum w (k : Int))).2)))).set o (cO 5 [ii vb, ii ((outF vb (vk v) (vk w) (vnum v (k : Int)) (vnum w (k : Int))).1), .ref nq, ii sz, ii lv, ii ((m : Int) + 1), ii vm_, zz rw_, ro, va, ii nu, ii vu])) dm_X5_askFlat_118 (g_put (fs' := [ii vb, ii ((outF vb (vk v) (vk w) (vnum v (k : Int)) (vnum w (k : Int))).1), .ref nq, ii sz, ii lv, ii ((m : Int) + 1), ii vm_, zz rw_, ro, va, ii nu, ii vu]) (hl_ne (by omega) (hl_set (hl_lt ho))) rfl rfl rfl (by simp) rfl (by decide) (fun z => by cases z) (by omega)) rfl rfl rfl ?_
                  have hT : (outT vb v w v k).1 = (outF vb (vk v) (vk w) (vnum v (k : Int)) (vnum w (k : Int))).1 := outT_1 (fun z => by obtain ⟨z1, z2, z3⟩ := z; first | (have z4 : fitsB (outF vb (vk v) (vk w) (vnum v (k : Int)) (vnum w (k : Int))).2 = true := (by assumption); rw [z3] at z4; cases z4) | omega)
                  refine y_iinc (pc' := 124) (L' := [(6, ii ((k : Int) + 1)), (7, .long ((outF vb (vk v) (vk w) (vnum v (k : Int)) (vnum w (k : Int))).2)), (0, .ref o), (1, .ref p), (2, .ref q), (3, ii ar), (4, .ref p), (5, ii (vq v : Int))]) dm_X5_askFlat_121 (y_incp (a := (k : Int)) (c := 1) rfl rfl (by decide)) rfl ?_
                  refine me2 (pc' := 33) (S' := []) dm_X5_askFlat_124 rfl rfl rfl ?_
                  refine pg_cast (h2 := ((h).set o (cO 5 [ii vb, ii ((outT vb v w v k).1), .ref nq, ii sz, ii lv, ii ((m + 1) : Int), ii vm_, zz rw_, ro, va, ii nu, ii vu])).set nq (cJ 1000 (va_up N m (outT vb v w v k).2))) (by rw [hT, outT_2, setoq (by omega)]) ?_
                  exact pg_sub (L := [(0, .ref o), (1, .ref p), (2, .ref q), (3, ii ar), (4, .ref p), (5, ii (vq v : Int)), (6, ii ((k + 1) : Int))]) rfl rfl rfl (ih33 (vq v - (k + 1)) (by omega) (k + 1) (m + 1) (va_up N m (outT vb v w v k).2) ((outT vb v w v k).1) rfl (by omega) (by omega) (by rw [hT]; omega) (by rw [flE_s (by rw [← hfe]; omega)]) (flN_s hN (by rw [← hfe]; omega) (by omega)))
              · refine me1 (pc' := 76) (L' := [(7, .long ((outF vb (vk v) (vk w) (vnum v (k : Int)) (vnum w (k : Int))).2)), (0, .ref o), (1, .ref p), (2, .ref q), (3, ii ar), (4, .ref p), (5, ii (vq v : Int)), (6, ii (k : Int))]) (S' := [.long ((outF vb (vk v) (vk w) (vnum v (k : Int)) (vnum w (k : Int))).2)]) dm_X5_askFlat_74 rfl rfl rfl rfl ?_
                refine x_cp (pc' := 79) (v := zz (fitsB ((outF vb (vk v) (vk w) (vnum v (k : Int)) (vnum w (k : Int))).2))) (rest := []) dm_X5_askFlat_76 rfl (g_invs (As := [.long ((outF vb (vk v) (vk w) (vnum v (k : Int)) (vnum w (k : Int))).2)]) (S := []) rfl rfl rfl) rfl rfl rfl (c_fitsInt (by omega)) ?_
                refine y_zne (c := fitsB ((outF vb (vk v) (vk w) (vnum v (k : Int)) (vnum w (k : Int))).2)) (t := 88) (pc' := 82) dm_X5_askFlat_79 rfl rfl (fun hb14 => ?_) (fun hb14 => ?_)
                · refine pg_cast (h2 := ((h).set o (cO 5 [ii vb, ii ((outF vb (vk v) (vk w) (vnum v (k : Int)) (vnum w (k : Int))).1), .ref nq, ii sz, ii lv, ii (m : Int), ii vm_, zz rw_, ro, va, ii nu, ii vu])).set nq (cJ 1000 N)) (setoq (by omega)) ?_
                  refine me1 (pc' := 89) (L' := [(7, .long ((outF vb (vk v) (vk w) (vnum v (k : Int)) (vnum w (k : Int))).2)), (0, .ref o), (1, .ref p), (2, .ref q), (3, ii ar), (4, .ref p), (5, ii (vq v : Int)), (6, ii (k : Int))]) (S' := [.ref o]) dm_X5_askFlat_88 rfl rfl rfl rfl ?_
                  refine me3 (pc' := 92) (S' := [ii (m : Int)]) dm_X5_askFlat_89 (g_get (v := ii (m : Int)) (hl_ne (by omega) (hl_set (hl_lt ho))) rfl rfl (by omega)) rfl rfl rfl ?_
                  refine me1 (pc' := 93) (L' := [(7, .long ((outF vb (vk v) (vk w) (vnum v (k : Int)) (vnum w (k : Int))).2)), (0, .ref o), (1, .ref p), (2, .ref q), (3, ii ar), (4, .ref p), (5, ii (vq v : Int)), (6, ii (k : Int))]) (S' := [.ref o, ii (m : Int)]) dm_X5_askFlat_92 rfl rfl rfl rfl ?_
                  refine me3 (pc' := 96) (S' := [.ref nq, ii (m : Int)]) dm_X5_askFlat_93 (g_get (v := .ref nq) (hl_ne (by omega) (hl_set (hl_lt ho))) rfl rfl (by omega)) rfl rfl rfl ?_
                  refine me3 (pc' := 97) (S' := [ii 1000, ii (m : Int)]) dm_X5_askFlat_96 (yh_len (n := 1000) rfl (hl_set (hl_lt (hl_ne (by omega) hnq))) (by omega)) rfl rfl rfl ?_
                  refine y_2ge (a := (m : Int)) (b := 1000) (t := 121) (pc' := 100) dm_X5_askFlat_97 rfl rfl (by omega) (fun hb15 => ?_) (fun hb15 => ?_)
                  · have hT : (outT vb v w v k).1 = (outF vb (vk v) (vk w) (vnum v (k : Int)) (vnum w (k : Int))).1 := outT_1 (fun z => by obtain ⟨z1, z2, z3⟩ := z; first | (have z4 : fitsB (outF vb (vk v) (vk w) (vnum v (k : Int)) (vnum w (k : Int))).2 = true := (by assumption); rw [z3] at z4; cases z4) | omega)
                    refine y_iinc (pc' := 124) (L' := [(6, ii ((k : Int) + 1)), (7, .long ((outF vb (vk v) (vk w) (vnum v (k : Int)) (vnum w (k : Int))).2)), (0, .ref o), (1, .ref p), (2, .ref q), (3, ii ar), (4, .ref p), (5, ii (vq v : Int))]) dm_X5_askFlat_121 (y_incp (a := (k : Int)) (c := 1) rfl rfl (by decide)) rfl ?_
                    refine me2 (pc' := 33) (S' := []) dm_X5_askFlat_124 rfl rfl rfl ?_
                    refine pg_cast (h2 := ((h).set o (cO 5 [ii vb, ii ((outT vb v w v k).1), .ref nq, ii sz, ii lv, ii (m : Int), ii vm_, zz rw_, ro, va, ii nu, ii vu])).set nq (cJ 1000 N)) (by rw [hT]) ?_
                    exact pg_sub (L := [(0, .ref o), (1, .ref p), (2, .ref q), (3, ii ar), (4, .ref p), (5, ii (vq v : Int)), (6, ii ((k + 1) : Int))]) rfl rfl rfl (ih33 (vq v - (k + 1)) (by omega) (k + 1) m N ((outT vb v w v k).1) rfl (by omega) (by omega) (by rw [hT]; omega) (by rw [flE_s (by rw [← hfe]; omega)]) (flN_t hN (by rw [← hfe]; omega) (by omega)))
                  · refine me1 (pc' := 101) (L' := [(7, .long ((outF vb (vk v) (vk w) (vnum v (k : Int)) (vnum w (k : Int))).2)), (0, .ref o), (1, .ref p), (2, .ref q), (3, ii ar), (4, .ref p), (5, ii (vq v : Int)), (6, ii (k : Int))]) (S' := [.ref o]) dm_X5_askFlat_100 rfl rfl rfl rfl ?_
                    refine me3 (pc' := 104) (S' := [.ref nq]) dm_X5_askFlat_101 (g_get (v := .ref nq) (hl_ne (by omega) (hl_set (hl_lt ho))) rfl rfl (by omega)) rfl rfl rfl ?_
                    refine me1 (pc' := 105) (L' := [(7, .long ((outF vb (vk v) (vk w) (vnum v (k : Int)) (vnum w (k : Int))).2)), (0, .ref o), (1, .ref p), (2, .ref q), (3, ii ar), (4, .ref p), (5, ii (vq v : Int)), (6, ii (k : Int))]) (S' := [.ref o, .ref nq]) dm_X5_askFlat_104 rfl rfl rfl rfl ?_
                    refine me3 (pc' := 108) (S' := [ii (m : Int), .ref nq]) dm_X5_askFlat_105 (g_get (v := ii (m : Int)) (hl_ne (by omega) (hl_set (hl_lt ho))) rfl rfl (by omega)) rfl rfl rfl ?_
                    refine me1 (pc' := 110) (L' := [(7, .long ((outF vb (vk v) (vk w) (vnum v (k : Int)) (vnum w (k : Int))).2)), (0, .ref o), (1, .ref p), (2, .ref q), (3, ii ar), (4, .ref p), (5, ii (vq v : Int)), (6, ii (k : Int))]) (S' := [.long ((outF vb (vk v) (vk w) (vnum v (k : Int)) (vnum w (k : Int))).2), ii (m : Int), .ref nq]) dm_X5_askFlat_108 rfl rfl rfl rfl ?_
                    refine me3 (pc' := 111) (S' := []) (h1 := ((h).set o (cO 5 [ii vb, ii ((outF vb (vk v) (vk w) (vnum v (k : Int)) (vnum w (k : Int))).1), .ref nq, ii sz, ii lv, ii (m : Int), ii vm_, zz rw_, ro, va, ii nu, ii vu])).set nq (cJ 1000 (va_up N m ((outF vb (vk v) (vk w) (vnum v (k : Int)) (vnum w (k : Int))).2)))) dm_X5_askFlat_110 (y_hs (yh_last (j := (m : Int)) (hl_set (hl_lt (hl_ne (by omega) hnq))) (by omega) (by omega) (by omega) (by omega)) (by rw [show (m : Int).toNat = m from rfl]; rw [List.set_set])) rfl rfl rfl ?_
                    refine me1 (pc' := 112) (L' := [(7, .long ((outF vb (vk v) (vk w) (vnum v (k : Int)) (vnum w (k : Int))).2)), (0, .ref o), (1, .ref p), (2, .ref q), (3, ii ar), (4, .ref p), (5, ii (vq v : Int)), (6, ii (k : Int))]) (S' := [.ref o]) dm_X5_askFlat_111 rfl rfl rfl rfl ?_
                    refine me0 (pc' := 113) (S' := [.ref o, .ref o]) dm_X5_askFlat_112 rfl rfl rfl rfl ?_
                    refine me3 (pc' := 116) (S' := [ii (m : Int), .ref o]) dm_X5_askFlat_113 (g_get (v := ii (m : Int)) (hl_ne (by omega) (hl_set (hl_lt ho))) rfl rfl (by omega)) rfl rfl rfl ?_
                    refine me0 (pc' := 117) (S' := [ii 1, ii (m : Int), .ref o]) dm_X5_askFlat_116 rfl rfl rfl rfl ?_
                    refine y_iadd (a := (m : Int)) (b := 1) dm_X5_askFlat_117 (pc' := 118) rfl ?_
                    refine me3 (pc' := 121) (S' := []) (h1 := (((h).set o (cO 5 [ii vb, ii ((outF vb (vk v) (vk w) (vnum v (k : Int)) (vnum w (k : Int))).1), .ref nq, ii sz, ii lv, ii (m : Int), ii vm_, zz rw_, ro, va, ii nu, ii vu])).set nq (cJ 1000 (va_up N m ((outF vb (vk v) (vk w) (vnum v (k : Int)) (vnum w (k : Int))).2)))).set o (cO 5 [ii vb, ii ((outF vb (vk v) (vk w) (vnum v (k : Int)) (vnum w (k : Int))).1), .ref nq, ii sz, ii lv, ii ((m : Int) + 1), ii vm_, zz rw_, ro, va, ii nu, ii vu])) dm_X5_askFlat_118 (g_put (fs' := [ii vb, ii ((outF vb (vk v) (vk w) (vnum v (k : Int)) (vnum w (k : Int))).1), .ref nq, ii sz, ii lv, ii ((m : Int) + 1), ii vm_, zz rw_, ro, va, ii nu, ii vu]) (hl_ne (by omega) (hl_set (hl_lt ho))) rfl rfl rfl (by simp) rfl (by decide) (fun z => by cases z) (by omega)) rfl rfl rfl ?_
                    have hT : (outT vb v w v k).1 = (outF vb (vk v) (vk w) (vnum v (k : Int)) (vnum w (k : Int))).1 := outT_1 (fun z => by obtain ⟨z1, z2, z3⟩ := z; first | (have z4 : fitsB (outF vb (vk v) (vk w) (vnum v (k : Int)) (vnum w (k : Int))).2 = true := (by assumption); rw [z3] at z4; cases z4) | omega)
                    refine y_iinc (pc' := 124) (L' := [(6, ii ((k : Int) + 1)), (7, .long ((outF vb (vk v) (vk w) (vnum v (k : Int)) (vnum w (k : Int))).2)), (0, .ref o), (1, .ref p), (2, .ref q), (3, ii ar), (4, .ref p), (5, ii (vq v : Int))]) dm_X5_askFlat_121 (y_incp (a := (k : Int)) (c := 1) rfl rfl (by decide)) rfl ?_
                    refine me2 (pc' := 33) (S' := []) dm_X5_askFlat_124 rfl rfl rfl ?_
                    refine pg_cast (h2 := ((h).set o (cO 5 [ii vb, ii ((outT vb v w v k).1), .ref nq, ii sz, ii lv, ii ((m + 1) : Int), ii vm_, zz rw_, ro, va, ii nu, ii vu])).set nq (cJ 1000 (va_up N m (outT vb v w v k).2))) (by rw [hT, outT_2, setoq (by omega)]) ?_
                    exact pg_sub (L := [(0, .ref o), (1, .ref p), (2, .ref q), (3, ii ar), (4, .ref p), (5, ii (vq v : Int)), (6, ii ((k + 1) : Int))]) rfl rfl rfl (ih33 (vq v - (k + 1)) (by omega) (k + 1) (m + 1) (va_up N m (outT vb v w v k).2) ((outT vb v w v k).1) rfl (by omega) (by omega) (by rw [hT]; omega) (by rw [flE_s (by rw [← hfe]; omega)]) (flN_s hN (by rw [← hfe]; omega) (by omega)))
                · refine me1 (pc' := 83) (L' := [(7, .long ((outF vb (vk v) (vk w) (vnum v (k : Int)) (vnum w (k : Int))).2)), (0, .ref o), (1, .ref p), (2, .ref q), (3, ii ar), (4, .ref p), (5, ii (vq v : Int)), (6, ii (k : Int))]) (S' := [.ref o]) dm_X5_askFlat_82 rfl rfl rfl rfl ?_
                  refine me0 (pc' := 85) (S' := [ii 6, .ref o]) dm_X5_askFlat_83 rfl rfl rfl rfl ?_
                  refine me3 (pc' := 88) (S' := []) (h1 := (((h).set o (cO 5 [ii vb, ii f, .ref nq, ii sz, ii lv, ii (m : Int), ii vm_, zz rw_, ro, va, ii nu, ii vu])).set nq (cJ 1000 N)).set o (cO 5 [ii vb, ii 6, .ref nq, ii sz, ii lv, ii (m : Int), ii vm_, zz rw_, ro, va, ii nu, ii vu])) dm_X5_askFlat_85 (g_put (fs' := [ii vb, ii 6, .ref nq, ii sz, ii lv, ii (m : Int), ii vm_, zz rw_, ro, va, ii nu, ii vu]) (hl_set (hl_lt (hl_ne (by omega) (hl_set (hl_lt ho))))) rfl (by rw [List.set_set]) rfl (by simp) rfl (by decide) (fun z => by cases z) (by omega)) rfl rfl rfl ?_
                  refine pg_cast (h2 := ((h).set o (cO 5 [ii vb, ii 6, .ref nq, ii sz, ii lv, ii (m : Int), ii vm_, zz rw_, ro, va, ii nu, ii vu])).set nq (cJ 1000 N)) (setoq (by omega)) ?_
                  refine me1 (pc' := 89) (L' := [(7, .long ((outF vb (vk v) (vk w) (vnum v (k : Int)) (vnum w (k : Int))).2)), (0, .ref o), (1, .ref p), (2, .ref q), (3, ii ar), (4, .ref p), (5, ii (vq v : Int)), (6, ii (k : Int))]) (S' := [.ref o]) dm_X5_askFlat_88 rfl rfl rfl rfl ?_
                  refine me3 (pc' := 92) (S' := [ii (m : Int)]) dm_X5_askFlat_89 (g_get (v := ii (m : Int)) (hl_ne (by omega) (hl_set (hl_lt ho))) rfl rfl (by omega)) rfl rfl rfl ?_
                  refine me1 (pc' := 93) (L' := [(7, .long ((outF vb (vk v) (vk w) (vnum v (k : Int)) (vnum w (k : Int))).2)), (0, .ref o), (1, .ref p), (2, .ref q), (3, ii ar), (4, .ref p), (5, ii (vq v : Int)), (6, ii (k : Int))]) (S' := [.ref o, ii (m : Int)]) dm_X5_askFlat_92 rfl rfl rfl rfl ?_
                  refine me3 (pc' := 96) (S' := [.ref nq, ii (m : Int)]) dm_X5_askFlat_93 (g_get (v := .ref nq) (hl_ne (by omega) (hl_set (hl_lt ho))) rfl rfl (by omega)) rfl rfl rfl ?_
                  refine me3 (pc' := 97) (S' := [ii 1000, ii (m : Int)]) dm_X5_askFlat_96 (yh_len (n := 1000) rfl (hl_set (hl_lt (hl_ne (by omega) hnq))) (by omega)) rfl rfl rfl ?_
                  refine y_2ge (a := (m : Int)) (b := 1000) (t := 121) (pc' := 100) dm_X5_askFlat_97 rfl rfl (by omega) (fun hb16 => ?_) (fun hb16 => ?_)
                  · have hT : (outT vb v w v k).1 = 6 := outT_6 (by refine ⟨by omega, by omega, by assumption⟩)
                    refine y_iinc (pc' := 124) (L' := [(6, ii ((k : Int) + 1)), (7, .long ((outF vb (vk v) (vk w) (vnum v (k : Int)) (vnum w (k : Int))).2)), (0, .ref o), (1, .ref p), (2, .ref q), (3, ii ar), (4, .ref p), (5, ii (vq v : Int))]) dm_X5_askFlat_121 (y_incp (a := (k : Int)) (c := 1) rfl rfl (by decide)) rfl ?_
                    refine me2 (pc' := 33) (S' := []) dm_X5_askFlat_124 rfl rfl rfl ?_
                    refine pg_cast (h2 := ((h).set o (cO 5 [ii vb, ii ((outT vb v w v k).1), .ref nq, ii sz, ii lv, ii (m : Int), ii vm_, zz rw_, ro, va, ii nu, ii vu])).set nq (cJ 1000 N)) (by rw [hT]) ?_
                    exact pg_sub (L := [(0, .ref o), (1, .ref p), (2, .ref q), (3, ii ar), (4, .ref p), (5, ii (vq v : Int)), (6, ii ((k + 1) : Int))]) rfl rfl rfl (ih33 (vq v - (k + 1)) (by omega) (k + 1) m N ((outT vb v w v k).1) rfl (by omega) (by omega) (by rw [hT]; omega) (by rw [flE_s (by rw [← hfe]; omega)]) (flN_t hN (by rw [← hfe]; omega) (by omega)))
                  · refine me1 (pc' := 101) (L' := [(7, .long ((outF vb (vk v) (vk w) (vnum v (k : Int)) (vnum w (k : Int))).2)), (0, .ref o), (1, .ref p), (2, .ref q), (3, ii ar), (4, .ref p), (5, ii (vq v : Int)), (6, ii (k : Int))]) (S' := [.ref o]) dm_X5_askFlat_100 rfl rfl rfl rfl ?_
                    refine me3 (pc' := 104) (S' := [.ref nq]) dm_X5_askFlat_101 (g_get (v := .ref nq) (hl_ne (by omega) (hl_set (hl_lt ho))) rfl rfl (by omega)) rfl rfl rfl ?_
                    refine me1 (pc' := 105) (L' := [(7, .long ((outF vb (vk v) (vk w) (vnum v (k : Int)) (vnum w (k : Int))).2)), (0, .ref o), (1, .ref p), (2, .ref q), (3, ii ar), (4, .ref p), (5, ii (vq v : Int)), (6, ii (k : Int))]) (S' := [.ref o, .ref nq]) dm_X5_askFlat_104 rfl rfl rfl rfl ?_
                    refine me3 (pc' := 108) (S' := [ii (m : Int), .ref nq]) dm_X5_askFlat_105 (g_get (v := ii (m : Int)) (hl_ne (by omega) (hl_set (hl_lt ho))) rfl rfl (by omega)) rfl rfl rfl ?_
                    refine me1 (pc' := 110) (L' := [(7, .long ((outF vb (vk v) (vk w) (vnum v (k : Int)) (vnum w (k : Int))).2)), (0, .ref o), (1, .ref p), (2, .ref q), (3, ii ar), (4, .ref p), (5, ii (vq v : Int)), (6, ii (k : Int))]) (S' := [.long ((outF vb (vk v) (vk w) (vnum v (k : Int)) (vnum w (k : Int))).2), ii (m : Int), .ref nq]) dm_X5_askFlat_108 rfl rfl rfl rfl ?_
                    refine me3 (pc' := 111) (S' := []) (h1 := ((h).set o (cO 5 [ii vb, ii 6, .ref nq, ii sz, ii lv, ii (m : Int), ii vm_, zz rw_, ro, va, ii nu, ii vu])).set nq (cJ 1000 (va_up N m ((outF vb (vk v) (vk w) (vnum v (k : Int)) (vnum w (k : Int))).2)))) dm_X5_askFlat_110 (y_hs (yh_last (j := (m : Int)) (hl_set (hl_lt (hl_ne (by omega) hnq))) (by omega) (by omega) (by omega) (by omega)) (by rw [show (m : Int).toNat = m from rfl]; rw [List.set_set])) rfl rfl rfl ?_
                    refine me1 (pc' := 112) (L' := [(7, .long ((outF vb (vk v) (vk w) (vnum v (k : Int)) (vnum w (k : Int))).2)), (0, .ref o), (1, .ref p), (2, .ref q), (3, ii ar), (4, .ref p), (5, ii (vq v : Int)), (6, ii (k : Int))]) (S' := [.ref o]) dm_X5_askFlat_111 rfl rfl rfl rfl ?_
                    refine me0 (pc' := 113) (S' := [.ref o, .ref o]) dm_X5_askFlat_112 rfl rfl rfl rfl ?_
                    refine me3 (pc' := 116) (S' := [ii (m : Int), .ref o]) dm_X5_askFlat_113 (g_get (v := ii (m : Int)) (hl_ne (by omega) (hl_set (hl_lt ho))) rfl rfl (by omega)) rfl rfl rfl ?_
                    refine me0 (pc' := 117) (S' := [ii 1, ii (m : Int), .ref o]) dm_X5_askFlat_116 rfl rfl rfl rfl ?_
                    refine y_iadd (a := (m : Int)) (b := 1) dm_X5_askFlat_117 (pc' := 118) rfl ?_
                    refine me3 (pc' := 121) (S' := []) (h1 := (((h).set o (cO 5 [ii vb, ii 6, .ref nq, ii sz, ii lv, ii (m : Int), ii vm_, zz rw_, ro, va, ii nu, ii vu])).set nq (cJ 1000 (va_up N m ((outF vb (vk v) (vk w) (vnum v (k : Int)) (vnum w (k : Int))).2)))).set o (cO 5 [ii vb, ii 6, .ref nq, ii sz, ii lv, ii ((m : Int) + 1), ii vm_, zz rw_, ro, va, ii nu, ii vu])) dm_X5_askFlat_118 (g_put (fs' := [ii vb, ii 6, .ref nq, ii sz, ii lv, ii ((m : Int) + 1), ii vm_, zz rw_, ro, va, ii nu, ii vu]) (hl_ne (by omega) (hl_set (hl_lt ho))) rfl rfl rfl (by simp) rfl (by decide) (fun z => by cases z) (by omega)) rfl rfl rfl ?_
                    have hT : (outT vb v w v k).1 = 6 := outT_6 (by refine ⟨by omega, by omega, by assumption⟩)
                    refine y_iinc (pc' := 124) (L' := [(6, ii ((k : Int) + 1)), (7, .long ((outF vb (vk v) (vk w) (vnum v (k : Int)) (vnum w (k : Int))).2)), (0, .ref o), (1, .ref p), (2, .ref q), (3, ii ar), (4, .ref p), (5, ii (vq v : Int))]) dm_X5_askFlat_121 (y_incp (a := (k : Int)) (c := 1) rfl rfl (by decide)) rfl ?_
                    refine me2 (pc' := 33) (S' := []) dm_X5_askFlat_124 rfl rfl rfl ?_
                    refine pg_cast (h2 := ((h).set o (cO 5 [ii vb, ii ((outT vb v w v k).1), .ref nq, ii sz, ii lv, ii ((m + 1) : Int), ii vm_, zz rw_, ro, va, ii nu, ii vu])).set nq (cJ 1000 (va_up N m (outT vb v w v k).2))) (by rw [hT, outT_2, setoq (by omega)]) ?_
                    exact pg_sub (L := [(0, .ref o), (1, .ref p), (2, .ref q), (3, ii ar), (4, .ref p), (5, ii (vq v : Int)), (6, ii ((k + 1) : Int))]) rfl rfl rfl (ih33 (vq v - (k + 1)) (by omega) (k + 1) (m + 1) (va_up N m (outT vb v w v k).2) ((outT vb v w v k).1) rfl (by omega) (by omega) (by rw [hT]; omega) (by rw [flE_s (by rw [← hfe]; omega)]) (flN_s hN (by rw [← hfe]; omega) (by omega)))
    refine pg_cast (h2 := ((h).set o (cO 5 [ii vb, ii (askF v w), .ref nq, ii sz, ii lv, ii (m0 : Int), ii vm_, zz rw_, ro, va, ii nu, ii vu])).set nq (cJ 1000 N0)) (hl_self (hl_ne (by omega) hnq)).symm ?_
    exact pg_sub (L := [(0, .ref o), (1, .ref p), (2, .ref q), (3, ii ar), (4, .ref p), (5, ii (vq v : Int)), (6, ii (0 : Int))]) rfl rfl rfl (lp33 _ 0 m0 N0 (askF v w) rfl (Nat.zero_le _) hm0 (by omega) flE_0 (flN_0 hm0))
  · replace hb1 := dT hb1; exfalso; omega
