theorem aact_dup {A : Nat → Prop} {h h' : mj_H} {e a b : Nat} {o : Nat ⊕ VV} {r : Value} (hr : aact A h e o a b r h') : aact A h (e + 1) o a b r h' := by
  obtain ⟨h1, g1, g2, g3⟩ := hr
  exact ⟨h1, g1, g2, ares_dup g3⟩
theorem aact_ref {A : Nat → Prop} {h h' : mj_H} {e a b : Nat} {o : Nat ⊕ VV} {r : Value} (hr : aact A h e o a b r h') : ∃ q, r = .ref q := by
  obtain ⟨h1, g1, g2, g3⟩ := hr
  exact ares_ref g3
theorem pair_err {vb : Int} {e m : Nat} {v w : VV} {N0 N : Nat → Int64} {f s l u : Int} {r : Bool} (hk : pAsk vb e v w 0 0 0 0 false 0 N0 f s l m u r N) (hz : f ≠ 0 ∨ 1000 < s ∨ 5 < l) : d_pair vb e v w = .inl (fE f s l).toNat ∧ 1 ≤ fE f s l ∧ fE f s l ≤ 8 := by
  obtain ⟨h1, h2, -⟩ := hk
  have h3 := paF_r vb e v w
  unfold d_pair fE
  by_cases z : f ≠ 0
  · rw [if_pos (by rw [← h1]; exact z), if_pos z, h1]
    exact ⟨rfl, by omega, by omega⟩
  · have z0 : f = 0 := by omega
    obtain ⟨b1, b2, -⟩ := h2 z0
    rw [if_neg (by rw [← h1]; exact z), if_neg z, if_pos (by omega), if_pos (by omega)]
    exact ⟨rfl, by omega, by omega⟩
theorem pair_ok {vb : Int} {e m : Nat} {v w : VV} {N0 N : Nat → Int64} {f s l u : Int} {r : Bool} (hk : pAsk vb e v w 0 0 0 0 false 0 N0 f s l m u r N) (hv : vwf e v) (hw : vwf e w) (hz : ¬ (f ≠ 0 ∨ 1000 < s ∨ 5 < l)) : f = 0 ∧ d_pair vb e v w = .inr (paV vb e v w) ∧ paF vb e v w = 0 ∧ paS e v w ≤ 1000 ∧ paL e v w ≤ 5 ∧ s = (paS e v w : Int) ∧ l = (paL e v w : Int) ∧ m = paC e v w ∧ u = ((paM e v w : Nat) : Int) ∧ r = paR e v w ∧ paN vb N e v w 0 ∧ paC e v w ≤ 999 ∧ paM e v w ≤ 999 := by
  obtain ⟨h1, h2, -⟩ := hk
  have z0 : f = 0 := by omega
  obtain ⟨b1, b2, b3, b4, b5, b6⟩ := h2 z0
  have hF : paF vb e v w = 0 := by rw [← h1]; exact z0
  obtain ⟨c1, c2, c3, c4, c5, c6⟩ := pa_all vb e v w hv hw hF
  have hS : paS e v w ≤ 1000 := by omega
  have hC : paC e v w ≤ 999 := by
    by_cases y : vk v ≤ 1 ∧ vk w ≤ 1
    · cases e with
      | zero => exact hv.elim
      | succ e =>
        rw [paC_s, if_pos ⟨by omega, by omega⟩]
        have := vq_le (lkV_w hv.1 hw.1)
        omega
    · have := c3 y; omega
  refine ⟨z0, ?_, hF, hS, by omega, by omega, by omega, by omega, by omega, ?_, b6, hC, by omega⟩
  · unfold d_pair
    rw [if_neg (by omega), if_neg (by omega)]
  · rw [b5, Bool.false_or]
/-- the room that asking leaves for its numbers -/
theorem pair_rng {vb : Int} {e m : Nat} {v w : VV} {N0 N : Nat → Int64} {f s l u : Int} {r : Bool} (hk : pAsk vb e v w 0 0 0 0 false 0 N0 f s l m u r N) (hv : vwf e v) (hw : vwf e w) (hs1 : vsz e v ≤ 1000) (hs2 : vsz e w ≤ 1000) (he : e ≤ 50) : (0 ≤ f ∧ f ≤ 6) ∧ (f ≠ 0 ∨ (0 ≤ s ∧ s ≤ 2000000 ∧ 0 ≤ l ∧ l ≤ 1000)) := by
  obtain ⟨h1, h2, -⟩ := hk
  refine ⟨by rw [h1]; exact paF_r vb e v w, ?_⟩
  by_cases z : f = 0
  · obtain ⟨b1, b2, -⟩ := h2 z
    have c6 := (pa_all vb e v w hv hw (by rw [← h1]; exact z)).2.2.2.2.2
    have c7 := Nat.mul_le_mul hs1 hs2
    have c8 := paL_le e v w
    refine Or.inr ⟨by omega, by omega, by omega, by omega⟩
  · exact Or.inl z
theorem actH_23 {h : mj_H} (ha : actH h) (a b c d e f : Int) (g : Bool) (h1 h2 : Value) (h3 h4 : Int) : actH (h.set 23 (PO a b 24 c d e f g h1 h2 h3 h4)) := by
  obtain ⟨a1, ⟨f2, a2⟩, ⟨f3, a3⟩, ⟨f4, a4, b4⟩, ⟨f5, a5⟩, ⟨f6, a6⟩, ⟨x1, x2, x3, x4, x5, x6, x7, x8, x9, x10, x11, a7⟩, ⟨f8, a8⟩, ⟨f9, a9⟩, ⟨y1, y2, y3, y4, y5, y6, y7, y8, y9, y10, y11, a10⟩, ⟨f11, a11⟩, ⟨f12, a12⟩, ⟨f13, a13⟩, ⟨f14, a14⟩⟩ := ha
  exact ⟨hl_ne (by decide) a1, ⟨f2, hl_ne (by decide) a2⟩, ⟨f3, hl_ne (by decide) a3⟩, ⟨f4, hl_ne (by decide) a4, b4⟩, ⟨f5, hl_ne (by decide) a5⟩, ⟨f6, hl_ne (by decide) a6⟩, ⟨_, _, _, _, _, _, _, _, _, _, _, hl_set (hl_lt a7)⟩, ⟨f8, hl_ne (by decide) a8⟩, ⟨f9, hl_ne (by decide) a9⟩, ⟨y1, y2, y3, y4, y5, y6, y7, y8, y9, y10, y11, hl_ne (by decide) a10⟩, ⟨f11, hl_ne (by decide) a11⟩, ⟨f12, hl_ne (by decide) a12⟩, ⟨f13, hl_ne (by decide) a13⟩, ⟨f14, hl_ne (by decide) a14⟩⟩
theorem actH_27 {h : mj_H} (ha : actH h) (a b c d e f : Int) (g : Bool) (h1 h2 : Value) (h3 h4 : Int) : actH (h.set 27 (PO a b 28 c d e f g h1 h2 h3 h4)) := by
  obtain ⟨a1, ⟨f2, a2⟩, ⟨f3, a3⟩, ⟨f4, a4, b4⟩, ⟨f5, a5⟩, ⟨f6, a6⟩, ⟨x1, x2, x3, x4, x5, x6, x7, x8, x9, x10, x11, a7⟩, ⟨f8, a8⟩, ⟨f9, a9⟩, ⟨y1, y2, y3, y4, y5, y6, y7, y8, y9, y10, y11, a10⟩, ⟨f11, a11⟩, ⟨f12, a12⟩, ⟨f13, a13⟩, ⟨f14, a14⟩⟩ := ha
  exact ⟨hl_ne (by decide) a1, ⟨f2, hl_ne (by decide) a2⟩, ⟨f3, hl_ne (by decide) a3⟩, ⟨f4, hl_ne (by decide) a4, b4⟩, ⟨f5, hl_ne (by decide) a5⟩, ⟨f6, hl_ne (by decide) a6⟩, ⟨x1, x2, x3, x4, x5, x6, x7, x8, x9, x10, x11, hl_ne (by decide) a7⟩, ⟨f8, hl_ne (by decide) a8⟩, ⟨f9, hl_ne (by decide) a9⟩, ⟨_, _, _, _, _, _, _, _, _, _, _, hl_set (hl_lt a10)⟩, ⟨f11, hl_ne (by decide) a11⟩, ⟨f12, hl_ne (by decide) a12⟩, ⟨f13, hl_ne (by decide) a13⟩, ⟨f14, hl_ne (by decide) a14⟩⟩
theorem actH_24 {h : mj_H} (ha : actH h) (f : Nat → Int64) : actH (h.set 24 (cJ 1000 f)) := by
  obtain ⟨a1, ⟨f2, a2⟩, ⟨f3, a3⟩, ⟨f4, a4, b4⟩, ⟨f5, a5⟩, ⟨f6, a6⟩, ⟨x1, x2, x3, x4, x5, x6, x7, x8, x9, x10, x11, a7⟩, ⟨f8, a8⟩, ⟨f9, a9⟩, ⟨y1, y2, y3, y4, y5, y6, y7, y8, y9, y10, y11, a10⟩, ⟨f11, a11⟩, ⟨f12, a12⟩, ⟨f13, a13⟩, ⟨f14, a14⟩⟩ := ha
  exact ⟨hl_ne (by decide) a1, ⟨f2, hl_ne (by decide) a2⟩, ⟨f3, hl_ne (by decide) a3⟩, ⟨f4, hl_ne (by decide) a4, b4⟩, ⟨f5, hl_ne (by decide) a5⟩, ⟨f6, hl_ne (by decide) a6⟩, ⟨x1, x2, x3, x4, x5, x6, x7, x8, x9, x10, x11, hl_ne (by decide) a7⟩, ⟨f, hl_set (hl_lt a8)⟩, ⟨f9, hl_ne (by decide) a9⟩, ⟨y1, y2, y3, y4, y5, y6, y7, y8, y9, y10, y11, hl_ne (by decide) a10⟩, ⟨f11, hl_ne (by decide) a11⟩, ⟨f12, hl_ne (by decide) a12⟩, ⟨f13, hl_ne (by decide) a13⟩, ⟨f14, hl_ne (by decide) a14⟩⟩
theorem actH_28 {h : mj_H} (ha : actH h) (f : Nat → Int64) : actH (h.set 28 (cJ 1000 f)) := by
  obtain ⟨a1, ⟨f2, a2⟩, ⟨f3, a3⟩, ⟨f4, a4, b4⟩, ⟨f5, a5⟩, ⟨f6, a6⟩, ⟨x1, x2, x3, x4, x5, x6, x7, x8, x9, x10, x11, a7⟩, ⟨f8, a8⟩, ⟨f9, a9⟩, ⟨y1, y2, y3, y4, y5, y6, y7, y8, y9, y10, y11, a10⟩, ⟨f11, a11⟩, ⟨f12, a12⟩, ⟨f13, a13⟩, ⟨f14, a14⟩⟩ := ha
  exact ⟨hl_ne (by decide) a1, ⟨f2, hl_ne (by decide) a2⟩, ⟨f3, hl_ne (by decide) a3⟩, ⟨f4, hl_ne (by decide) a4, b4⟩, ⟨f5, hl_ne (by decide) a5⟩, ⟨f6, hl_ne (by decide) a6⟩, ⟨x1, x2, x3, x4, x5, x6, x7, x8, x9, x10, x11, hl_ne (by decide) a7⟩, ⟨f8, hl_ne (by decide) a8⟩, ⟨f9, hl_ne (by decide) a9⟩, ⟨y1, y2, y3, y4, y5, y6, y7, y8, y9, y10, y11, hl_ne (by decide) a10⟩, ⟨f, hl_set (hl_lt a11)⟩, ⟨f12, hl_ne (by decide) a12⟩, ⟨f13, hl_ne (by decide) a13⟩, ⟨f14, hl_ne (by decide) a14⟩⟩
theorem set_of_pt {h h1 : mj_H} {o : Nat} {c : mj_E} (hl : h1.length = h.length) (hy : ∀ y, y ≠ o → h1[y]? = h[y]?) (ho : h1[o]? = some c) : h1 = h.set o c := by
  apply List.ext_getElem?
  intro y
  have hlo := hl_lt ho
  by_cases z : y = o
  · rw [z, ho, List.getElem?_set_self (by omega)]
  · rw [hy y z, List.getElem?_set_ne (Ne.symm z)]
def s_two (vb : Int) (e : Nat) (v w : VV) : Nat ⊕ VV := if vb = 126 then .inr (v1 0 (Int64.ofInt (zi (vsame (e + 1) v w)))) else if vb = 44 then d_join v w else if vb = 35 then d_take v w else if vb = 95 then d_drop v w else if vb = 63 then d_find (e + 1) v w else if vb = 64 then d_at v w else if vb = 36 then d_fit v w else if vb = 94 then d_wo (e + 1) v w else if vb = 46 then d_inner v w else d_pair vb (e + 1) v w
/-- what PAIRED makes: nothing but the error, where it fails -/
def pcA (o : Nat ⊕ VV) (x : Nat) : Nat := match o with
  | .inl _ => 1
  | .inr _ => x
def pcB (o : Nat ⊕ VV) (x : Nat) : Nat := match o with
  | .inl _ => 9
  | .inr _ => x
def twoA (vb : Int) (e : Nat) (v w : VV) : Nat := if vb = 126 then 1 else if vb = 44 then vm v + vm w + 2 else if vb = 35 ∨ vb = 95 ∨ vb = 63 ∨ vb = 64 ∨ vb = 36 ∨ vb = 94 ∨ vb = 46 then 2 else pcA (d_pair vb (e + 1) v w) (prA (e + 1) v w)
def twoB (vb : Int) (e : Nat) (v w : VV) : Nat := if vb = 126 then 9 else if vb = 44 then 10 * (vm v + vm w) + vq v + vq w + 9 else if vb = 35 then tkb v w else if vb = 95 then pcl w (vm w - (dclamp v w).natAbs) + 9 else if vb = 63 then vm w + 9 else if vb = 64 then pcl v (vm w) + 9 else if vb = 36 then min 120 (vn v 0).toInt.natAbs + 9 else if vb = 94 then pcl v (flt (woF (e + 1) v w) (vm v)).1 + 9 else if vb = 46 then inL v * inC w + 9 else pcB (d_pair vb (e + 1) v w) (prB (e + 1) v w)
set_option maxRecDepth 20000 in
theorem pm_X9_of : mj_mmof pg_ms 142 = some ((⟨"ArrayCalculator$TwoAct", "of", "(ILArrayCalculator$Value;LArrayCalculator$Value;)LArrayCalculator$Value;"⟩, prog_11_method_2_code, 4, (Option.some (Jvm.ClassFile.FieldType.object "ArrayCalculator$Value"))), 9, false, mj_dec prog_11_method_2_code) := rfl
theorem dm_X9_of_0 : mj_dec prog_11_method_2_code 0 = some (.iload_n 1, 1) := by decide +kernel
theorem dm_X9_of_1 : mj_dec prog_11_method_2_code 1 = some (.lookupswitch 153 #[(35, 106), (36, 133), (44, 100), (46, 146), (63, 120), (64, 126), (94, 139), (95, 113), (126, 83)], 83) := by decide +kernel
theorem dm_X9_of_84 : mj_dec prog_11_method_2_code 84 = some (.aload_n 2, 1) := by decide +kernel
theorem dm_X9_of_85 : mj_dec prog_11_method_2_code 85 = some (.aload_n 3, 1) := by decide +kernel
theorem dm_X9_of_86 : mj_dec prog_11_method_2_code 86 = some (.invokestatic 32, 3) := by decide +kernel
theorem dm_X9_of_89 : mj_dec prog_11_method_2_code 89 = some (.ifCond .eq 7, 3) := by decide +kernel
theorem dm_X9_of_92 : mj_dec prog_11_method_2_code 92 = some (.lconst 1, 1) := by decide +kernel
theorem dm_X9_of_93 : mj_dec prog_11_method_2_code 93 = some (.goto 4, 3) := by decide +kernel
theorem dm_X9_of_96 : mj_dec prog_11_method_2_code 96 = some (.lconst 0, 1) := by decide +kernel
theorem dm_X9_of_97 : mj_dec prog_11_method_2_code 97 = some (.invokestatic 36, 3) := by decide +kernel
theorem dm_X9_of_100 : mj_dec prog_11_method_2_code 100 = some (.areturn, 1) := by decide +kernel
theorem dm_X9_of_101 : mj_dec prog_11_method_2_code 101 = some (.aload_n 2, 1) := by decide +kernel
theorem dm_X9_of_102 : mj_dec prog_11_method_2_code 102 = some (.aload_n 3, 1) := by decide +kernel
theorem dm_X9_of_103 : mj_dec prog_11_method_2_code 103 = some (.invokestatic 40, 3) := by decide +kernel
theorem dm_X9_of_106 : mj_dec prog_11_method_2_code 106 = some (.areturn, 1) := by decide +kernel
theorem dm_X9_of_107 : mj_dec prog_11_method_2_code 107 = some (.aload_n 0, 1) := by decide +kernel
theorem dm_X9_of_108 : mj_dec prog_11_method_2_code 108 = some (.aload_n 2, 1) := by decide +kernel
theorem dm_X9_of_109 : mj_dec prog_11_method_2_code 109 = some (.aload_n 3, 1) := by decide +kernel
theorem dm_X9_of_110 : mj_dec prog_11_method_2_code 110 = some (.invokevirtual 44, 3) := by decide +kernel
theorem dm_X9_of_113 : mj_dec prog_11_method_2_code 113 = some (.areturn, 1) := by decide +kernel
theorem dm_X9_of_114 : mj_dec prog_11_method_2_code 114 = some (.aload_n 0, 1) := by decide +kernel
theorem dm_X9_of_115 : mj_dec prog_11_method_2_code 115 = some (.aload_n 2, 1) := by decide +kernel
theorem dm_X9_of_116 : mj_dec prog_11_method_2_code 116 = some (.aload_n 3, 1) := by decide +kernel
theorem dm_X9_of_117 : mj_dec prog_11_method_2_code 117 = some (.invokevirtual 47, 3) := by decide +kernel
theorem dm_X9_of_120 : mj_dec prog_11_method_2_code 120 = some (.areturn, 1) := by decide +kernel
theorem dm_X9_of_121 : mj_dec prog_11_method_2_code 121 = some (.aload_n 2, 1) := by decide +kernel
theorem dm_X9_of_122 : mj_dec prog_11_method_2_code 122 = some (.aload_n 3, 1) := by decide +kernel
theorem dm_X9_of_123 : mj_dec prog_11_method_2_code 123 = some (.invokestatic 50, 3) := by decide +kernel
theorem dm_X9_of_126 : mj_dec prog_11_method_2_code 126 = some (.areturn, 1) := by decide +kernel
theorem dm_X9_of_127 : mj_dec prog_11_method_2_code 127 = some (.aload_n 0, 1) := by decide +kernel
theorem dm_X9_of_128 : mj_dec prog_11_method_2_code 128 = some (.aload_n 2, 1) := by decide +kernel
theorem dm_X9_of_129 : mj_dec prog_11_method_2_code 129 = some (.aload_n 3, 1) := by decide +kernel
theorem dm_X9_of_130 : mj_dec prog_11_method_2_code 130 = some (.invokevirtual 53, 3) := by decide +kernel
theorem dm_X9_of_133 : mj_dec prog_11_method_2_code 133 = some (.areturn, 1) := by decide +kernel
theorem dm_X9_of_134 : mj_dec prog_11_method_2_code 134 = some (.aload_n 2, 1) := by decide +kernel
theorem dm_X9_of_135 : mj_dec prog_11_method_2_code 135 = some (.aload_n 3, 1) := by decide +kernel
theorem dm_X9_of_136 : mj_dec prog_11_method_2_code 136 = some (.invokestatic 56, 3) := by decide +kernel
theorem dm_X9_of_139 : mj_dec prog_11_method_2_code 139 = some (.areturn, 1) := by decide +kernel
theorem dm_X9_of_140 : mj_dec prog_11_method_2_code 140 = some (.aload_n 0, 1) := by decide +kernel
theorem dm_X9_of_141 : mj_dec prog_11_method_2_code 141 = some (.aload_n 2, 1) := by decide +kernel
theorem dm_X9_of_142 : mj_dec prog_11_method_2_code 142 = some (.aload_n 3, 1) := by decide +kernel
theorem dm_X9_of_143 : mj_dec prog_11_method_2_code 143 = some (.invokevirtual 59, 3) := by decide +kernel
theorem dm_X9_of_146 : mj_dec prog_11_method_2_code 146 = some (.areturn, 1) := by decide +kernel
theorem dm_X9_of_147 : mj_dec prog_11_method_2_code 147 = some (.aload_n 0, 1) := by decide +kernel
theorem dm_X9_of_148 : mj_dec prog_11_method_2_code 148 = some (.aload_n 2, 1) := by decide +kernel
theorem dm_X9_of_149 : mj_dec prog_11_method_2_code 149 = some (.aload_n 3, 1) := by decide +kernel
theorem dm_X9_of_150 : mj_dec prog_11_method_2_code 150 = some (.invokevirtual 62, 3) := by decide +kernel
theorem dm_X9_of_153 : mj_dec prog_11_method_2_code 153 = some (.areturn, 1) := by decide +kernel
theorem dm_X9_of_154 : mj_dec prog_11_method_2_code 154 = some (.aload_n 0, 1) := by decide +kernel
theorem dm_X9_of_155 : mj_dec prog_11_method_2_code 155 = some (.getfield 12, 3) := by decide +kernel
theorem dm_X9_of_158 : mj_dec prog_11_method_2_code 158 = some (.iload_n 1, 1) := by decide +kernel
theorem dm_X9_of_159 : mj_dec prog_11_method_2_code 159 = some (.invokevirtual 65, 3) := by decide +kernel
theorem dm_X9_of_162 : mj_dec prog_11_method_2_code 162 = some (.aload_n 0, 1) := by decide +kernel
theorem dm_X9_of_163 : mj_dec prog_11_method_2_code 163 = some (.getfield 12, 3) := by decide +kernel
theorem dm_X9_of_166 : mj_dec prog_11_method_2_code 166 = some (.aload_n 2, 1) := by decide +kernel
theorem dm_X9_of_167 : mj_dec prog_11_method_2_code 167 = some (.aload_n 3, 1) := by decide +kernel
theorem dm_X9_of_168 : mj_dec prog_11_method_2_code 168 = some (.iconst 0, 1) := by decide +kernel
theorem dm_X9_of_169 : mj_dec prog_11_method_2_code 169 = some (.invokevirtual 69, 3) := by decide +kernel
theorem dm_X9_of_172 : mj_dec prog_11_method_2_code 172 = some (.aload_n 0, 1) := by decide +kernel
theorem dm_X9_of_173 : mj_dec prog_11_method_2_code 173 = some (.getfield 12, 3) := by decide +kernel
theorem dm_X9_of_176 : mj_dec prog_11_method_2_code 176 = some (.invokevirtual 73, 3) := by decide +kernel
theorem dm_X9_of_179 : mj_dec prog_11_method_2_code 179 = some (.ifCond .eq 16, 3) := by decide +kernel
theorem dm_X9_of_182 : mj_dec prog_11_method_2_code 182 = some (.aload_n 0, 1) := by decide +kernel
theorem dm_X9_of_183 : mj_dec prog_11_method_2_code 183 = some (.getfield 12, 3) := by decide +kernel
theorem dm_X9_of_186 : mj_dec prog_11_method_2_code 186 = some (.invokevirtual 77, 3) := by decide +kernel
theorem dm_X9_of_189 : mj_dec prog_11_method_2_code 189 = some (.invokestatic 81, 3) := by decide +kernel
theorem dm_X9_of_192 : mj_dec prog_11_method_2_code 192 = some (.goto 12, 3) := by decide +kernel
theorem dm_X9_of_195 : mj_dec prog_11_method_2_code 195 = some (.aload_n 0, 1) := by decide +kernel
theorem dm_X9_of_196 : mj_dec prog_11_method_2_code 196 = some (.getfield 12, 3) := by decide +kernel
theorem dm_X9_of_199 : mj_dec prog_11_method_2_code 199 = some (.aload_n 2, 1) := by decide +kernel
theorem dm_X9_of_200 : mj_dec prog_11_method_2_code 200 = some (.aload_n 3, 1) := by decide +kernel
theorem dm_X9_of_201 : mj_dec prog_11_method_2_code 201 = some (.invokevirtual 85, 3) := by decide +kernel
theorem dm_X9_of_204 : mj_dec prog_11_method_2_code 204 = some (.areturn, 1) := by decide +kernel
theorem t_of {xt : mj_X} {d e p q : Nat} {A : Nat → Prop} {h : mj_H} {v w : VV} {f1 : Nat → Value} (hx1 : xt 1 = some (.long, 0, f1)) (hd : 8 * e + 32 ≤ d) (hl : 127 ≤ h.length) (hA : okA A h) (hH : actH h) (hv : cv A h (e + 1) p v) (hw : cv A h (e + 1) q w) (he : e ≤ 18) (hset : vsz (e + 1) v ≤ 1000) (hset2 : vsz (e + 1) w ≤ 1000) (hcl : cloneOK xt) {verb : Int} (hverbr : -2147483648 ≤ verb ∧ verb ≤ 2147483647) : pgV xt d 142 [.ref 26, ii verb, .ref p, .ref q] h (aact A h (e + 2) (s_two verb e v w) (twoA verb e v w) (twoB verb e v w)) := by
  obtain ⟨-, -, -, -, -, -, -, -, ⟨ft0, h26⟩, -, -, ⟨pf0, h29⟩, ⟨nf0, h30⟩, ⟨uf0, h31⟩⟩ := id hH
  have hcv := vw1_c hv.1
  have hcw := vw1_c hw.1
  obtain ⟨row, fr, vals, hp, hp2, hpA, hvk, hvm, hvc, hvs, hvl⟩ := cv_val hv
  obtain ⟨row2, fr2, vals2, hq, hq2, hqA, hwk, hwm, hwc, hws, hwl⟩ := cv_val hw
  have hpb := hA p hpA
  have hqb := hA q hqA
  obtain ⟨a27, b27, c27, d27, e27, f27, g27, ro0, va0, i27, j27, ho0⟩ := hH.2.2.2.2.2.2.2.2.2.1
  obtain ⟨N0, hnq0⟩ := hH.2.2.2.2.2.2.2.2.2.2.1
  refine x_enter pm_X9_of (L0 := [(0, .ref 26), (1, ii verb), (2, .ref p), (3, .ref q)]) rfl (Nat.le_of_ble_eq_true rfl) (by omega) ?_
  refine me1 (pc' := 1) (L' := [(0, .ref 26), (1, ii verb), (2, .ref p), (3, .ref q)]) (S' := [ii verb]) dm_X9_of_0 rfl rfl rfl rfl ?_
  refine y_sw (a := verb) (35) (t := 107) (i := .lookupswitch 153 #[(35, 106), (36, 133), (44, 100), (46, 146), (63, 120), (64, 126), (94, 139), (95, 113), (126, 83)]) (len := 83) dm_X9_of_1 rfl rfl rfl (by omega) (by decide) (fun hb1 => ?_) (fun hb1 => ?_)
  · have hverb : verb = 35 := by assumption
    refine me1 (pc' := 108) (L' := [(0, .ref 26), (1, ii verb), (2, .ref p), (3, .ref q)]) (S' := [.ref 26]) dm_X9_of_107 rfl rfl rfl rfl ?_
    refine me1 (pc' := 109) (L' := [(0, .ref 26), (1, ii verb), (2, .ref p), (3, .ref q)]) (S' := [.ref p, .ref 26]) dm_X9_of_108 rfl rfl rfl rfl ?_
    refine me1 (pc' := 110) (L' := [(0, .ref 26), (1, ii verb), (2, .ref p), (3, .ref q)]) (S' := [.ref q, .ref p, .ref 26]) dm_X9_of_109 rfl rfl rfl rfl ?_
    refine x_cv (pc' := 113) (rest := []) dm_X9_of_110 rfl (g_inv (As := [.ref p, .ref q]) (S := []) h26 rfl rfl rfl (by decide)) rfl rfl rfl (t_taken hx1 (by omega) hl hA hH hv hw (by omega) hset hset2) ?_
    rintro x h2 hres
    obtain ⟨qz, rfl⟩ := aact_ref hres
    refine y_ret (r := some (.ref qz)) dm_X9_of_113 rfl rfl rfl ?_
    refine ⟨_, rfl, ?_⟩
    rw [hverb]
    exact aact_dup hres
  refine y_sw (a := verb) (36) (t := 134) (i := .lookupswitch 153 #[(35, 106), (36, 133), (44, 100), (46, 146), (63, 120), (64, 126), (94, 139), (95, 113), (126, 83)]) (len := 83) dm_X9_of_1 rfl rfl rfl (by omega) (by decide) (fun hb2 => ?_) (fun hb2 => ?_)
  · have hverb : verb = 36 := by assumption
    refine me1 (pc' := 135) (L' := [(0, .ref 26), (1, ii verb), (2, .ref p), (3, .ref q)]) (S' := [.ref p]) dm_X9_of_134 rfl rfl rfl rfl ?_
    refine me1 (pc' := 136) (L' := [(0, .ref 26), (1, ii verb), (2, .ref p), (3, .ref q)]) (S' := [.ref q, .ref p]) dm_X9_of_135 rfl rfl rfl rfl ?_
    refine x_cv (pc' := 139) (rest := []) dm_X9_of_136 rfl (g_invs (As := [.ref p, .ref q]) (S := []) rfl rfl rfl) rfl rfl rfl (t_fit hx1 (by omega) hl hA hH hv hw (by omega) hset hset2) ?_
    rintro x h2 hres
    obtain ⟨qz, rfl⟩ := aact_ref hres
    refine y_ret (r := some (.ref qz)) dm_X9_of_139 rfl rfl rfl ?_
    refine ⟨_, rfl, ?_⟩
    rw [hverb]
    exact aact_dup hres
  refine y_sw (a := verb) (44) (t := 101) (i := .lookupswitch 153 #[(35, 106), (36, 133), (44, 100), (46, 146), (63, 120), (64, 126), (94, 139), (95, 113), (126, 83)]) (len := 83) dm_X9_of_1 rfl rfl rfl (by omega) (by decide) (fun hb3 => ?_) (fun hb3 => ?_)
  · have hverb : verb = 44 := by assumption
    refine me1 (pc' := 102) (L' := [(0, .ref 26), (1, ii verb), (2, .ref p), (3, .ref q)]) (S' := [.ref p]) dm_X9_of_101 rfl rfl rfl rfl ?_
    refine me1 (pc' := 103) (L' := [(0, .ref 26), (1, ii verb), (2, .ref p), (3, .ref q)]) (S' := [.ref q, .ref p]) dm_X9_of_102 rfl rfl rfl rfl ?_
    refine x_cv (pc' := 106) (rest := []) dm_X9_of_103 rfl (g_invs (As := [.ref p, .ref q]) (S := []) rfl rfl rfl) rfl rfl rfl (t_joined hx1 (by omega) hl hA hH hv hw (by omega) hset hset2) ?_
    rintro x h2 hres
    obtain ⟨qz, rfl⟩ := aact_ref hres
    refine y_ret (r := some (.ref qz)) dm_X9_of_106 rfl rfl rfl ?_
    refine ⟨_, rfl, ?_⟩
    rw [hverb]
    exact hres
  refine y_sw (a := verb) (46) (t := 147) (i := .lookupswitch 153 #[(35, 106), (36, 133), (44, 100), (46, 146), (63, 120), (64, 126), (94, 139), (95, 113), (126, 83)]) (len := 83) dm_X9_of_1 rfl rfl rfl (by omega) (by decide) (fun hb4 => ?_) (fun hb4 => ?_)
  · have hverb : verb = 46 := by assumption
    refine me1 (pc' := 148) (L' := [(0, .ref 26), (1, ii verb), (2, .ref p), (3, .ref q)]) (S' := [.ref 26]) dm_X9_of_147 rfl rfl rfl rfl ?_
    refine me1 (pc' := 149) (L' := [(0, .ref 26), (1, ii verb), (2, .ref p), (3, .ref q)]) (S' := [.ref p, .ref 26]) dm_X9_of_148 rfl rfl rfl rfl ?_
    refine me1 (pc' := 150) (L' := [(0, .ref 26), (1, ii verb), (2, .ref p), (3, .ref q)]) (S' := [.ref q, .ref p, .ref 26]) dm_X9_of_149 rfl rfl rfl rfl ?_
    refine x_cv (pc' := 153) (rest := []) dm_X9_of_150 rfl (g_inv (As := [.ref p, .ref q]) (S := []) h26 rfl rfl rfl (by decide)) rfl rfl rfl (t_inner hx1 (by omega) hl hA hH hv hw (by omega) hset hset2 hcl) ?_
    rintro x h2 hres
    obtain ⟨qz, rfl⟩ := aact_ref hres
    refine y_ret (r := some (.ref qz)) dm_X9_of_153 rfl rfl rfl ?_
    refine ⟨_, rfl, ?_⟩
    rw [hverb]
    exact aact_dup hres
  refine y_sw (a := verb) (63) (t := 121) (i := .lookupswitch 153 #[(35, 106), (36, 133), (44, 100), (46, 146), (63, 120), (64, 126), (94, 139), (95, 113), (126, 83)]) (len := 83) dm_X9_of_1 rfl rfl rfl (by omega) (by decide) (fun hb5 => ?_) (fun hb5 => ?_)
  · have hverb : verb = 63 := by assumption
    refine me1 (pc' := 122) (L' := [(0, .ref 26), (1, ii verb), (2, .ref p), (3, .ref q)]) (S' := [.ref p]) dm_X9_of_121 rfl rfl rfl rfl ?_
    refine me1 (pc' := 123) (L' := [(0, .ref 26), (1, ii verb), (2, .ref p), (3, .ref q)]) (S' := [.ref q, .ref p]) dm_X9_of_122 rfl rfl rfl rfl ?_
    refine x_cv (pc' := 126) (rest := []) dm_X9_of_123 rfl (g_invs (As := [.ref p, .ref q]) (S := []) rfl rfl rfl) rfl rfl rfl (t_found hx1 (by omega) hl hA hH hv hw (by omega) hset hset2) ?_
    rintro x h2 hres
    obtain ⟨qz, rfl⟩ := aact_ref hres
    refine y_ret (r := some (.ref qz)) dm_X9_of_126 rfl rfl rfl ?_
    refine ⟨_, rfl, ?_⟩
    rw [hverb]
    exact aact_dup hres
  refine y_sw (a := verb) (64) (t := 127) (i := .lookupswitch 153 #[(35, 106), (36, 133), (44, 100), (46, 146), (63, 120), (64, 126), (94, 139), (95, 113), (126, 83)]) (len := 83) dm_X9_of_1 rfl rfl rfl (by omega) (by decide) (fun hb6 => ?_) (fun hb6 => ?_)
  · have hverb : verb = 64 := by assumption
    refine me1 (pc' := 128) (L' := [(0, .ref 26), (1, ii verb), (2, .ref p), (3, .ref q)]) (S' := [.ref 26]) dm_X9_of_127 rfl rfl rfl rfl ?_
    refine me1 (pc' := 129) (L' := [(0, .ref 26), (1, ii verb), (2, .ref p), (3, .ref q)]) (S' := [.ref p, .ref 26]) dm_X9_of_128 rfl rfl rfl rfl ?_
    refine me1 (pc' := 130) (L' := [(0, .ref 26), (1, ii verb), (2, .ref p), (3, .ref q)]) (S' := [.ref q, .ref p, .ref 26]) dm_X9_of_129 rfl rfl rfl rfl ?_
    refine x_cv (pc' := 133) (rest := []) dm_X9_of_130 rfl (g_inv (As := [.ref p, .ref q]) (S := []) h26 rfl rfl rfl (by decide)) rfl rfl rfl (t_at hx1 (by omega) hl hA hH hv hw (by omega) hset hset2) ?_
    rintro x h2 hres
    obtain ⟨qz, rfl⟩ := aact_ref hres
    refine y_ret (r := some (.ref qz)) dm_X9_of_133 rfl rfl rfl ?_
    refine ⟨_, rfl, ?_⟩
    rw [hverb]
    exact aact_dup hres
  refine y_sw (a := verb) (94) (t := 140) (i := .lookupswitch 153 #[(35, 106), (36, 133), (44, 100), (46, 146), (63, 120), (64, 126), (94, 139), (95, 113), (126, 83)]) (len := 83) dm_X9_of_1 rfl rfl rfl (by omega) (by decide) (fun hb7 => ?_) (fun hb7 => ?_)
  · have hverb : verb = 94 := by assumption
    refine me1 (pc' := 141) (L' := [(0, .ref 26), (1, ii verb), (2, .ref p), (3, .ref q)]) (S' := [.ref 26]) dm_X9_of_140 rfl rfl rfl rfl ?_
    refine me1 (pc' := 142) (L' := [(0, .ref 26), (1, ii verb), (2, .ref p), (3, .ref q)]) (S' := [.ref p, .ref 26]) dm_X9_of_141 rfl rfl rfl rfl ?_
    refine me1 (pc' := 143) (L' := [(0, .ref 26), (1, ii verb), (2, .ref p), (3, .ref q)]) (S' := [.ref q, .ref p, .ref 26]) dm_X9_of_142 rfl rfl rfl rfl ?_
    refine x_cv (pc' := 146) (rest := []) dm_X9_of_143 rfl (g_inv (As := [.ref p, .ref q]) (S := []) h26 rfl rfl rfl (by decide)) rfl rfl rfl (t_without hx1 (by omega) hl hA hH hv hw (by omega) hset hset2) ?_
    rintro x h2 hres
    obtain ⟨qz, rfl⟩ := aact_ref hres
    refine y_ret (r := some (.ref qz)) dm_X9_of_146 rfl rfl rfl ?_
    refine ⟨_, rfl, ?_⟩
    rw [hverb]
    exact aact_dup hres
  refine y_sw (a := verb) (95) (t := 114) (i := .lookupswitch 153 #[(35, 106), (36, 133), (44, 100), (46, 146), (63, 120), (64, 126), (94, 139), (95, 113), (126, 83)]) (len := 83) dm_X9_of_1 rfl rfl rfl (by omega) (by decide) (fun hb8 => ?_) (fun hb8 => ?_)
  · have hverb : verb = 95 := by assumption
    refine me1 (pc' := 115) (L' := [(0, .ref 26), (1, ii verb), (2, .ref p), (3, .ref q)]) (S' := [.ref 26]) dm_X9_of_114 rfl rfl rfl rfl ?_
    refine me1 (pc' := 116) (L' := [(0, .ref 26), (1, ii verb), (2, .ref p), (3, .ref q)]) (S' := [.ref p, .ref 26]) dm_X9_of_115 rfl rfl rfl rfl ?_
    refine me1 (pc' := 117) (L' := [(0, .ref 26), (1, ii verb), (2, .ref p), (3, .ref q)]) (S' := [.ref q, .ref p, .ref 26]) dm_X9_of_116 rfl rfl rfl rfl ?_
    refine x_cv (pc' := 120) (rest := []) dm_X9_of_117 rfl (g_inv (As := [.ref p, .ref q]) (S := []) h26 rfl rfl rfl (by decide)) rfl rfl rfl (t_dropped hx1 (by omega) hl hA hH hv hw (by omega) hset hset2) ?_
    rintro x h2 hres
    obtain ⟨qz, rfl⟩ := aact_ref hres
    refine y_ret (r := some (.ref qz)) dm_X9_of_120 rfl rfl rfl ?_
    refine ⟨_, rfl, ?_⟩
    rw [hverb]
    exact aact_dup hres
  refine y_sw (a := verb) (126) (t := 84) (i := .lookupswitch 153 #[(35, 106), (36, 133), (44, 100), (46, 146), (63, 120), (64, 126), (94, 139), (95, 113), (126, 83)]) (len := 83) dm_X9_of_1 rfl rfl rfl (by omega) (by decide) (fun hb9 => ?_) (fun hb9 => ?_)
  · have hverb : verb = 126 := by assumption
    refine me1 (pc' := 85) (L' := [(0, .ref 26), (1, ii verb), (2, .ref p), (3, .ref q)]) (S' := [.ref p]) dm_X9_of_84 rfl rfl rfl rfl ?_
    refine me1 (pc' := 86) (L' := [(0, .ref 26), (1, ii verb), (2, .ref p), (3, .ref q)]) (S' := [.ref q, .ref p]) dm_X9_of_85 rfl rfl rfl rfl ?_
    refine x_cp (pc' := 89) (v := zz (vsame (e + 1) v w)) (rest := []) dm_X9_of_86 rfl (g_invs (As := [.ref p, .ref q]) (S := []) rfl rfl rfl) rfl rfl rfl (c_same hx1 (e + 1) (by omega) hv hw) ?_
    refine y_zeq (c := vsame (e + 1) v w) (t := 96) (pc' := 92) dm_X9_of_89 rfl rfl (fun hb10 => ?_) (fun hb10 => ?_)
    · refine me0 (pc' := 97) (S' := [.long (Int64.ofInt 0)]) dm_X9_of_96 rfl rfl rfl rfl ?_
      refine x_cv (pc' := 100) (rest := []) dm_X9_of_97 rfl (g_invs (As := [.long (Int64.ofInt 0)]) (S := []) rfl rfl rfl) rfl rfl rfl (c_number (q := h.length) (by omega) (by omega) rfl ) ?_
      rintro _ _ ⟨rfl, rfl⟩
      refine y_ret (r := some (.ref h.length)) dm_X9_of_100 rfl rfl rfl ?_
      refine ⟨_, rfl, h, scrS_rf h, hH, ?_⟩
      rw [hverb]
      first | (have hzz : vsame (e + 1) v w = true := (by assumption); show ares A h (e + 2) (.inr (v1 0 (Int64.ofInt (zi (vsame (e + 1) v w))))) 1 9 _ _; rw [hzz]; exact vres_one (k := 0) (by omega) (by omega) (by omega) (by omega)) | (have hzz : vsame (e + 1) v w = false := (by assumption); show ares A h (e + 2) (.inr (v1 0 (Int64.ofInt (zi (vsame (e + 1) v w))))) 1 9 _ _; rw [hzz]; exact vres_one (k := 0) (by omega) (by omega) (by omega) (by omega))
    · refine me0 (pc' := 93) (S' := [.long (Int64.ofInt 1)]) dm_X9_of_92 rfl rfl rfl rfl ?_
      refine me2 (pc' := 97) (S' := [.long (Int64.ofInt 1)]) dm_X9_of_93 rfl rfl rfl ?_
      refine x_cv (pc' := 100) (rest := []) dm_X9_of_97 rfl (g_invs (As := [.long (Int64.ofInt 1)]) (S := []) rfl rfl rfl) rfl rfl rfl (c_number (q := h.length) (by omega) (by omega) rfl ) ?_
      rintro _ _ ⟨rfl, rfl⟩
      refine y_ret (r := some (.ref h.length)) dm_X9_of_100 rfl rfl rfl ?_
      refine ⟨_, rfl, h, scrS_rf h, hH, ?_⟩
      rw [hverb]
      first | (have hzz : vsame (e + 1) v w = true := (by assumption); show ares A h (e + 2) (.inr (v1 0 (Int64.ofInt (zi (vsame (e + 1) v w))))) 1 9 _ _; rw [hzz]; exact vres_one (k := 0) (by omega) (by omega) (by omega) (by omega)) | (have hzz : vsame (e + 1) v w = false := (by assumption); show ares A h (e + 2) (.inr (v1 0 (Int64.ofInt (zi (vsame (e + 1) v w))))) 1 9 _ _; rw [hzz]; exact vres_one (k := 0) (by omega) (by omega) (by omega) (by omega))
  refine me2 (pc' := 154) (S' := []) dm_X9_of_1 (sw_ldef [Int32.ofInt 35, Int32.ofInt 36, Int32.ofInt 44, Int32.ofInt 46, Int32.ofInt 63, Int32.ofInt 64, Int32.ofInt 94, Int32.ofInt 95, Int32.ofInt 126] rfl rfl rfl ⟨y_no (by omega) (by decide) hb1, y_no (by omega) (by decide) hb2, y_no (by omega) (by decide) hb3, y_no (by omega) (by decide) hb4, y_no (by omega) (by decide) hb5, y_no (by omega) (by decide) hb6, y_no (by omega) (by decide) hb7, y_no (by omega) (by decide) hb8, y_no (by omega) (by decide) hb9, trivial⟩) rfl rfl ?_
  have hspec : s_two verb e v w = d_pair verb (e + 1) v w := by unfold s_two; rw [if_neg (by omega), if_neg (by omega), if_neg (by omega), if_neg (by omega), if_neg (by omega), if_neg (by omega), if_neg (by omega), if_neg (by omega), if_neg (by omega)]
  have hspA : twoA verb e v w = pcA (d_pair verb (e + 1) v w) (prA (e + 1) v w) := by unfold twoA; rw [if_neg (by omega), if_neg (by omega), if_neg (by omega)]
  have hspB : twoB verb e v w = pcB (d_pair verb (e + 1) v w) (prB (e + 1) v w) := by unfold twoB; rw [if_neg (by omega), if_neg (by omega), if_neg (by omega), if_neg (by omega), if_neg (by omega), if_neg (by omega), if_neg (by omega), if_neg (by omega), if_neg (by omega)]
  refine me1 (pc' := 155) (L' := [(0, .ref 26), (1, ii verb), (2, .ref p), (3, .ref q)]) (S' := [.ref 26]) dm_X9_of_154 rfl rfl rfl rfl ?_
  refine me3 (pc' := 158) (S' := [.ref 27]) dm_X9_of_155 (g_get (v := .ref 27) h26 rfl rfl (by decide)) rfl rfl rfl ?_
  refine me1 (pc' := 159) (L' := [(0, .ref 26), (1, ii verb), (2, .ref p), (3, .ref q)]) (S' := [ii verb, .ref 27]) dm_X9_of_158 rfl rfl rfl rfl ?_
  refine x_cn (pc' := 162) (rest := []) dm_X9_of_159 rfl (g_inv (As := [ii verb]) (S := []) ho0 rfl rfl rfl (by decide)) rfl rfl rfl (p_ready (by omega) (by decide) ho0) ?_
  rintro _ rfl
  refine me1 (pc' := 163) (L' := [(0, .ref 26), (1, ii verb), (2, .ref p), (3, .ref q)]) (S' := [.ref 26]) dm_X9_of_162 rfl rfl rfl rfl ?_
  refine me3 (pc' := 166) (S' := [.ref 27]) dm_X9_of_163 (g_get (v := .ref 27) (hl_ne (by decide) h26) rfl rfl (by decide)) rfl rfl rfl ?_
  refine me1 (pc' := 167) (L' := [(0, .ref 26), (1, ii verb), (2, .ref p), (3, .ref q)]) (S' := [.ref p, .ref 27]) dm_X9_of_166 rfl rfl rfl rfl ?_
  refine me1 (pc' := 168) (L' := [(0, .ref 26), (1, ii verb), (2, .ref p), (3, .ref q)]) (S' := [.ref q, .ref p, .ref 27]) dm_X9_of_167 rfl rfl rfl rfl ?_
  refine me0 (pc' := 169) (S' := [ii 0, .ref q, .ref p, .ref 27]) dm_X9_of_168 rfl rfl rfl rfl ?_
  have hAr : okA A ((h).set 27 (cO 5 [ii verb, ii 0, .ref 28, ii 0, ii 0, ii 0, ii 0, zz false, ro0, va0, ii 0, ii 0])) := fun x hx => by rw [List.length_set]; exact hA x hx
  refine x_cn (pc' := 172) (rest := []) dm_X9_of_169 rfl (g_inv (As := [.ref p, .ref q, ii 0]) (S := []) (hl_set (hl_lt ho0)) rfl rfl rfl (by decide)) rfl rfl rfl ((show pgN xt (d - 1) _ _ _ _ from p_ask (A := A) (o := 27) (nq := 28) (vb := verb) hx1 (by omega) (by omega) (e + 1) (h := (h).set 27 (cO 5 [ii verb, ii 0, .ref 28, ii 0, ii 0, ii 0, ii 0, zz false, ro0, va0, ii 0, ii 0])) (m0 := 0) (N0 := N0) (sz := 0) (lv := 0) (ar := 0) (vm_ := 0) (nu := 0) (vu := 0) (rw_ := false) (ro := ro0) (va := va0) (by omega) hAr (cv_set (nA hA (Or.inl (by decide))) hv) (cv_set (nA hA (Or.inl (by decide))) hw) (hl_set (hl_lt ho0)) (hl_ne (by decide) hnq0) (by omega) (by omega) (by omega) (by omega))) ?_
  rintro _ ⟨m1, N1, fq, sq, lq, uq, rq, rfl, hk1⟩
  rw [List.set_set]
  obtain ⟨hfr9, hsr9⟩ := pair_rng hk1 (cv_wf hv) (cv_wf hw) hset hset2 (by omega)
  refine me1 (pc' := 173) (L' := [(0, .ref 26), (1, ii verb), (2, .ref p), (3, .ref q)]) (S' := [.ref 26]) dm_X9_of_172 rfl rfl rfl rfl ?_
  refine me3 (pc' := 176) (S' := [.ref 27]) dm_X9_of_173 (g_get (v := .ref 27) (hl_ne (by decide) (hl_ne (by decide) h26)) rfl rfl (by decide)) rfl rfl rfl ?_
  by_cases hz9 : fq ≠ 0 ∨ 1000 < sq ∨ 5 < lq
  · obtain ⟨hpe, hpe1, hpe2⟩ := pair_err hk1 hz9
    refine x_cv (pc' := 179) (rest := []) dm_X9_of_176 rfl (g_inv (As := []) (S := []) (hl_ne (by decide) (hl_set (hl_lt ho0))) rfl rfl rfl (by decide)) rfl rfl rfl ((show pgV xt (d - 1) _ _ _ (fun x h' => x = ii 1 ∧ h' = ((h).set 27 (cO 5 [ii verb, ii (fE fq sq lq), .ref 28, ii sq, ii lq, ii ((m1 : Nat) : Int), ii uq, zz rq, ro0, va0, ii 0, ii 0])).set 28 (cJ 1000 N1)) from by have z := p_endsT (xt := xt) (d := d - 1) (o := 27) (nq := 28) (h := ((h).set 27 (cO 5 [ii verb, ii fq, .ref 28, ii sq, ii lq, ii ((m1 : Nat) : Int), ii uq, zz rq, ro0, va0, ii 0, ii 0])).set 28 (cJ 1000 N1)) (by omega) (by decide) (hl_ne (by decide) (hl_set (hl_lt ho0))) hfr9 hsr9 hz9; rw [setoq (by decide)] at z; exact z)) ?_
    rintro _ _ ⟨rfl, rfl⟩
    refine me_1f (pc' := 182) dm_X9_of_179 rfl (by decide) rfl ?_
    refine me1 (pc' := 183) (L' := [(0, .ref 26), (1, ii verb), (2, .ref p), (3, .ref q)]) (S' := [.ref 26]) dm_X9_of_182 rfl rfl rfl rfl ?_
    refine me3 (pc' := 186) (S' := [.ref 27]) dm_X9_of_183 (g_get (v := .ref 27) (hl_ne (by decide) (hl_ne (by decide) h26)) rfl rfl (by decide)) rfl rfl rfl ?_
    refine x_cp (pc' := 189) (v := ii (fE fq sq lq)) (rest := []) dm_X9_of_186 rfl (g_inv (As := []) (S := []) (hl_ne (by decide) (hl_set (hl_lt ho0))) rfl rfl rfl (by decide)) rfl rfl rfl (p_error (by omega) (by decide) (hl_ne (by decide) (hl_set (hl_lt ho0)))) ?_
    refine x_cv (pc' := 192) (rest := []) dm_X9_of_189 rfl (g_invs (As := [ii (fE fq sq lq)]) (S := []) rfl rfl rfl) rfl rfl rfl (c_fault (q := h.length) (by omega) (by simp; omega) (by simp) (by omega)) ?_
    rintro _ _ ⟨rfl, rfl⟩
    refine me2 (pc' := 204) (S' := [.ref h.length]) dm_X9_of_192 rfl rfl rfl ?_
    refine y_ret (r := some (.ref h.length)) dm_X9_of_204 rfl rfl rfl ?_
    refine ⟨_, rfl, ((h).set 27 (cO 5 [ii verb, ii (fE fq sq lq), .ref 28, ii sq, ii lq, ii ((m1 : Nat) : Int), ii uq, zz rq, ro0, va0, ii 0, ii 0])).set 28 (cJ 1000 N1), scrS_tr (scrS_set (e' := cO 5 [ii verb, ii (fE fq sq lq), .ref 28, ii sq, ii lq, ii ((m1 : Nat) : Int), ii uq, zz rq, ro0, va0, ii 0, ii 0]) (by unfold scr; decide) ho0 rfl) (scrS_set (e' := cJ 1000 N1) (by unfold scr; decide) (hl_ne (by decide) hnq0) rfl), actH_28 (actH_27 hH _ _ _ _ _ _ _ _ _ _ _) _, ?_⟩
    rw [hspec, hspA, hspB]
    rw [hpe]
    have hfz := ares_fq (A := A) (h := ((h).set 27 (cO 5 [ii verb, ii (fE fq sq lq), .ref 28, ii sq, ii lq, ii ((m1 : Nat) : Int), ii uq, zz rq, ro0, va0, ii 0, ii 0])).set 28 (cJ 1000 N1)) (e := e + 2) (a := 1) (b := 9) (q := h.length) (fE fq sq lq).toNat (by simp) (by simp; omega) (Nat.le_refl _) (Nat.le_refl _)
    rw [show (((fE fq sq lq).toNat : Nat) : Int) = fE fq sq lq by omega] at hfz
    exact hfz
  · obtain ⟨hq0, hpo, hpF, hpS, hpL, hps, hpl, hpm, hpu, hpr, hpN, hpC, hpM⟩ := pair_ok hk1 (cv_wf hv) (cv_wf hw) hz9
    have hobx : (((h).set 27 (cO 5 [ii verb, ii fq, .ref 28, ii sq, ii lq, ii ((m1 : Nat) : Int), ii uq, zz rq, ro0, va0, ii 0, ii 0])).set 28 (cJ 1000 N1))[27]? = some (PO (verb) 0 28 sq lq ((m1 : Nat) : Int) ((paM (e + 1) v w : Nat) : Int) rq ro0 va0 0 0) := by rw [← hpu, ← hq0]; exact hl_ne (by decide) (hl_set (hl_lt ho0))
    have hnqx : (((h).set 27 (cO 5 [ii verb, ii fq, .ref 28, ii sq, ii lq, ii ((m1 : Nat) : Int), ii uq, zz rq, ro0, va0, ii 0, ii 0])).set 28 (cJ 1000 N1))[28]? = some (cJ 1000 N1) := hl_set (by rw [List.length_set]; exact hl_lt hnq0)
    obtain ⟨hb9, hhb9⟩ : ∃ hb9 : mj_H, hb9 = ((h).set 27 (cO 5 [ii verb, ii fq, .ref 28, ii sq, ii lq, ii ((m1 : Nat) : Int), ii uq, zz rq, ro0, va0, ii 0, ii 0])).set 28 (cJ 1000 N1) := ⟨_, rfl⟩
    have hscr9 : scrS h hb9 := by rw [hhb9]; exact scrS_tr (scrS_set (e' := cO 5 [ii verb, ii fq, .ref 28, ii sq, ii lq, ii ((m1 : Nat) : Int), ii uq, zz rq, ro0, va0, ii 0, ii 0]) (by unfold scr; decide) ho0 rfl) (scrS_set (e' := cJ 1000 N1) (by unfold scr; decide) (hl_ne (by decide) hnq0) rfl)
    rw [← hhb9] at hobx hnqx ⊢
    refine x_cv (pc' := 179) (rest := []) dm_X9_of_176 rfl (g_inv (As := []) (S := []) hobx rfl rfl rfl (by decide)) rfl rfl rfl ((show pgV xt (d - 1) _ _ hb9 _ from p_endsF (m := m1) (u := paM (e + 1) v w) (nu := 0) (vu := 0) (by omega) (by rw [hscr9.1]; exact hl) (by omega) hobx hnqx (by omega) (by omega) (by omega) (by omega))) ?_
    rintro _ hE ⟨rfl, ra, vals9, X9, hE1, hX2, hXs, hra, hva⟩
    refine me_1t (pc' := 195) dm_X9_of_179 rfl (by decide) ?_
    refine me1 (pc' := 196) (L' := [(0, .ref 26), (1, ii verb), (2, .ref p), (3, .ref q)]) (S' := [.ref 26]) dm_X9_of_195 rfl rfl rfl rfl ?_
    refine me3 (pc' := 199) (S' := [.ref 27]) dm_X9_of_196 (g_get (v := .ref 27) (by rw [hE1, hhb9]; exact hl_app (hl_ne (by decide) (hl_ne (by decide) (hl_ne (by decide) h26)))) rfl rfl (by decide)) rfl rfl rfl ?_
    refine me1 (pc' := 200) (L' := [(0, .ref 26), (1, ii verb), (2, .ref p), (3, .ref q)]) (S' := [.ref p, .ref 27]) dm_X9_of_199 rfl rfl rfl rfl ?_
    refine me1 (pc' := 201) (L' := [(0, .ref 26), (1, ii verb), (2, .ref p), (3, .ref q)]) (S' := [.ref q, .ref p, .ref 27]) dm_X9_of_200 rfl rfl rfl rfl ?_
    have hlb9 : hb9.length = h.length := hscr9.1
    have hlE : hE.length = h.length + X9.length := by rw [hE1, List.length_append, List.length_set, hscr9.1]
    have hraL : h.length ≤ ra → ra < h.length + X9.length := by intro z; rcases hra with y | y; (have := y.2; omega); (have y3 := hl_lt y.2.2; rw [hlE] at y3; rw [y.2.1] at z ⊢; rw [hscr9.1] at y3 ⊢; exact y3)
    have hkp : ∀ x c, A x → h[x]? = some c → (rowA A h ra) x ∧ hE[x]? = some c := fun x c hx hg => ⟨Or.inl hx, by rw [hE1]; exact hl_app (hl_ne (fun z => nA hA (Or.inl (by decide)) (z ▸ hx)) ((hscr9.2.2 x (fun z => by have := hA x hx; unfold scr at z; omega)).trans hg))⟩
    have hAE : okA (rowA A h ra) hE := fun x hx => by rcases hx with hx | hx; (have := hA x hx; omega); (have := hraL (by omega); omega)
    obtain ⟨mr9, F9, hrow9, hR9⟩ : ∃ mr F, rowAt (rowA A h ra) hE ra mr F ∧ (paR (e + 1) v w = true → paC (e + 1) v w ≤ mr ∧ ∀ j, j < mr → F j = N1 j) := by rcases hra with ⟨y1, y2⟩ | ⟨y1, y2, y3⟩; (exact ⟨0, fun _ => 0, Or.inl ⟨y2, rfl⟩, fun z => by rw [← hpr, y1] at z; cases z⟩); (refine ⟨m1, _, Or.inr ⟨by omega, by rw [y2]; exact y3, by omega, Or.inr ⟨by rw [y2, hscr9.1]; exact Nat.le_refl _, rfl⟩⟩, fun _ => ⟨by omega, fun j hj => cpy_at hj⟩⟩)
    have hva9 : paM (e + 1) v w = 0 ∧ vals9 = .null ∨ ∃ va, vals9 = .ref va ∧ 127 ≤ va ∧ ¬ (rowA A h ra) va ∧ hE[va]? = some (cA 4 (paM (e + 1) v w) (fun _ => none)) := by rcases hva with y | ⟨y0, va, y1, y2, y3, y4, y5⟩; exact Or.inl y; (exact Or.inr ⟨va, y1, Nat.le_trans hl (hlb9 ▸ y2), fun z => z.elim (fun z => absurd (hA va z).1 (by rw [hlb9] at y2; omega)) (fun z => y4 z.2), y5⟩)
    refine x_cv (pc' := 204) (rest := []) dm_X9_of_201 rfl (g_inv (As := [.ref p, .ref q]) (S := []) (by rw [hE1]; exact hl_app (hl_set (hl_lt hobx))) rfl rfl rfl (by decide)) rfl rfl rfl (p_makeU (A := (rowA A h ra)) (h := hE) (d := d - 1) (e := e) (o := 27) (nq := 28) (vb := verb) hx1 (by omega) (by omega) (by omega) (by omega) hAE (cv_keep hkp hv) (cv_keep hkp hw) (by omega) (by rw [hE1]; exact hl_app (hl_set (hl_lt hobx))) (by rw [hE1]; exact hl_app (hl_ne (by decide) hnqx)) hrow9 hpF hpN hpC hR9 rfl (by omega) hpS hva9) ?_
    rintro x h4 ⟨va9, arr9, V9, hmk, hva1, hva2⟩
    have hvz9 : arr9 → h.length ≤ va9 ∧ va9 < h.length + X9.length := fun z => by obtain ⟨y1, y2⟩ := hva1 z; rcases hva with ⟨_, y3⟩ | ⟨y0, va, y3, y4, y5, _⟩; (rw [y1] at y3; cases y3); (rw [y1] at y3; cases y3; rw [hscr9.1] at y4; exact ⟨y4, by omega⟩)
    obtain ⟨hs1, hsc1, hsy1, hso1, hres1⟩ := mk_done hl (by omega) hscr9 hobx hX2 hXs rfl hpm.symm (by rw [← hE1]; exact hmk) hraL hvz9 hva2
    obtain ⟨q9, rfl⟩ := vres_ref hres1
    refine y_ret (r := some (.ref q9)) dm_X9_of_204 rfl rfl rfl ?_
    refine ⟨_, rfl, hs1, hsc1, ?_, ?_⟩
    · rw [set_of_pt (by rw [hsc1.1, hscr9.1]) hsy1 hso1, hhb9]
      exact actH_27 (actH_28 (actH_27 hH _ _ _ _ _ _ _ _ _ _ _) _) _ _ _ _ _ _ _ _ _ _ _
    · rw [hspec, hspA, hspB]
      rw [hpo]
      exact ares_dup (show ares A hs1 (e + 1) (.inr _) _ _ _ _ from hres1)
