/-- a sum of products, as long as none of it is beyond -/
def sop (f g : Nat → Int64) : Nat → Option Int64
  | 0 => some (Int64.ofInt 0)
  | k + 1 => match sop f g k with
    | none => none
    | some s => if ovf ((f k).toInt * (g k).toInt) = true ∨ ovf (s.toInt + (f k * g k).toInt) = true then none else some (s + f k * g k)
theorem sop_s {f g : Nat → Int64} {k : Nat} {s : Int64} (h : sop f g k = some s) (h1 : ovf ((f k).toInt * (g k).toInt) = false) (h2 : ovf (s.toInt + (f k * g k).toInt) = false) : sop f g (k + 1) = some (s + f k * g k) := by
  conv => lhs; unfold sop
  rw [h]
  dsimp only
  rw [if_neg (by rw [h1, h2]; simp)]
theorem sop_n {f g : Nat → Int64} {k n : Nat} {s : Int64} (h : sop f g k = some s) (h1 : ovf ((f k).toInt * (g k).toInt) = true ∨ ovf (s.toInt + (f k * g k).toInt) = true) (hk : k < n) : sop f g n = none := by
  have e : sop f g (k + 1) = none := by
    unfold sop
    rw [h]
    dsimp only
    rw [if_pos h1]
  obtain ⟨i, rfl⟩ : ∃ i, n = k + 1 + i := ⟨n - (k + 1), by omega⟩
  clear hk
  induction i with
  | zero => exact e
  | succ i ih =>
    show sop f g (k + 1 + i + 1) = none
    unfold sop
    rw [ih]
def sopV (o : Option Int64) : Int64 := match o with
  | none => Int64.ofInt 0
  | some s => s
def sopE (o : Option Int64) (f : Int) : Int := match o with
  | none => 6
  | some _ => f
theorem sopE_r (o : Option Int64) {f : Int} (h : 0 ≤ f ∧ f ≤ 6) : 0 ≤ sopE o f ∧ sopE o f ≤ 6 := by
  unfold sopE
  split
  · omega
  · exact h
/-- . with two: how long, lines, columns, the number at a place -/
def inA (v : VV) : Nat := if vk v = 6 then vc v else vm v
def inL (v : VV) : Nat := if vk v = 6 then vm v else 1
def inC (w : VV) : Nat := if vk w = 6 then vc w else 1
def inO (v w : VV) (i : Nat) : Option Int64 := sop (fun k => vn v (i / inC w * inA v + k)) (fun k => vn w (i % inC w + k * inC w)) (vm w)
def inB (v w : VV) (i : Nat) : Int := if inO v w i = none ∨ (vk v = 6 ∧ vk w = 6 ∧ fitsB (sopV (inO v w i)) = false) then 6 else 0
theorem inB_r (v w : VV) (i : Nat) : inB v w i = 0 ∨ inB v w i = 6 := by unfold inB; split <;> omega
theorem errs_s0 {g : Nat → Int} {k : Nat} (h : errs g k = 0) : errs g (k + 1) = g k := by show (if errs g k = 0 then g k else errs g k) = g k; rw [if_pos h]
theorem errs_01 {g : Nat → Int} (h : ∀ i, g i = 0 ∨ g i = 6) (k : Nat) : errs g k = 0 ∨ errs g k = 6 := by
  induction k with
  | zero => exact Or.inl rfl
  | succ k ih =>
    show (if errs g k = 0 then g k else errs g k) = 0 ∨ (if errs g k = 0 then g k else errs g k) = 6
    split
    · exact h k
    · exact ih
theorem errs_all {g : Nat → Int} {n : Nat} (h : errs g n = 0) : ∀ i, i < n → g i = 0 := by
  induction n with
  | zero => intro i hi; omega
  | succ n ih =>
    have h0 : errs g n = 0 := by
      by_cases z : errs g n = 0
      · exact z
      · have := errs_mono z 1
        rw [this] at h
        exact absurd h z
    intro i hi
    by_cases z : i = n
    · rw [z, ← errs_s0 h0]; exact h
    · exact ih h0 i (by omega)
theorem inB_fit {v w : VV} {i : Nat} (h : inB v w i = 0) (h6 : vk v = 6) (h7 : vk w = 6) : fits (sopV (inO v w i)) := by
  unfold inB at h
  by_cases z : inO v w i = none ∨ (vk v = 6 ∧ vk w = 6 ∧ fitsB (sopV (inO v w i)) = false)
  · rw [if_pos z] at h; omega
  · have hf : fitsB (sopV (inO v w i)) = true := by
      cases hh : fitsB (sopV (inO v w i)) with
      | true => rfl
      | false => exact absurd (Or.inr ⟨h6, h7, hh⟩) z
    exact fitsB_iff.mp hf
def d_inner (v w : VV) : Nat ⊕ VV := if ¬ (2 ≤ vk v ∧ vk v ≤ 6 ∧ 2 ≤ vk w ∧ vk w ≤ 6) then .inl 3 else if vk v = 3 ∨ vk w = 3 then .inl 5 else if inA v ≠ vm w then .inl 4 else if errs (inB v w) (inL v * inC w) ≠ 0 then .inl 6 else if vk v ≤ 5 ∧ vk w ≤ 5 then .inr (v1 0 (sopV (inO v w 0))) else if vk v = 6 ∧ vk w = 6 then .inr (vtab (inL v) (inC w) (fun i => sopV (inO v w i))) else .inr (vrow (vform (inL v * inC w) (fun i => sopV (inO v w i))) (inL v * inC w) (fun i => sopV (inO v w i)))
/-- the JDK's clone of an array of longs (Arrays.copyOf of all of it) -/
def cloneOK (xt : mj_X) : Prop := ∀ {d b n q : Nat} {h : mj_H} {f : Nat → Int64}, 2 ≤ d → 2 ≤ h.length → h.length = q → h[b]? = some (cJ n f) → 2 ≤ b → n ≤ 1000 → pgV xt d 101 [.ref b, ii (n : Int)] h (fun x h' => x = .ref q ∧ h' = h ++ [cJ n (va_cpy f (fun _ => 0) 0 0 n)])
theorem j_copyOfA {xt : mj_X} (hcl : cloneOK xt) {d b n n0 q : Nat} {h : mj_H} {f : Nat → Int64} (hd : 2 ≤ d) (hl : 2 ≤ h.length) (hq : h.length = q) (hb_ : h[b]? = some (cJ n0 f)) (hb2 : 2 ≤ b) (hn : n ≤ n0) (hn0 : n0 ≤ 1000) : pgV xt d 101 [.ref b, ii (n : Int)] h (fun x h' => x = .ref q ∧ h' = h ++ [cJ n (va_cpy f (fun _ => 0) 0 0 n)]) := by
  by_cases z : n = n0
  · subst z; exact hcl hd hl hq hb_ hb2 hn0
  · exact j_copyOf hd hl hq hb_ hb2 (by omega) hn0

theorem errs_row {g : Nat → Int} {r c k : Nat} {fk : Int} (hk : k ≤ c) (hfk : fk = errs g (r * c + k)) (h : k = c ∨ fk ≠ 0) : fk = errs g ((r + 1) * c) := by
  rw [Nat.add_mul, Nat.one_mul]
  rcases h with h | h
  · rw [h] at hfk; exact hfk
  · have y := errs_mono (g := g) (k := r * c + k) (by omega) (c - k)
    rw [show r * c + k + (c - k) = r * c + c by omega] at y
    omega
theorem inX {v w : VV} {i k : Nat} (hv : vw1 v) (hw : vw1 w) (h1 : 2 ≤ vk v ∧ vk v ≤ 6 ∧ 2 ≤ vk w ∧ vk w ≤ 6) (ha : inA v = vm w) (hi : i < inL v * inC w) (hk : k < vm w) : i / inC w * inA v + k < vq v ∧ i % inC w + k * inC w < vq w ∧ 0 < inC w := by
  have hc : 0 < inC w := by
    unfold inC
    by_cases z : vk w = 6
    · rw [if_pos z]; have := hw.2.2.2.1 z; omega
    · rw [if_neg z]; omega
  have hr : i / inC w < inL v := (Nat.div_lt_iff_lt_mul hc).mpr hi
  have hm := Nat.mod_lt i hc
  refine ⟨?_, ?_, hc⟩
  · have h9 := mul_lt (a := i / inC w) (b := k) (m := inA v) (n := inL v) hr (by omega)
    unfold inL inA at *
    by_cases z : vk v = 6
    · simp only [if_pos z] at *; rw [vq_tb z]; exact h9
    · simp only [if_neg z] at *; rw [vq_m (by omega)]; omega
  · have h9 := mul_lt (a := k) (b := i % inC w) (m := inC w) (n := vm w) hk hm
    unfold inC at *
    by_cases z : vk w = 6
    · simp only [if_pos z] at *; rw [vq_tb z]; omega
    · simp only [if_neg z] at *; rw [vq_m (by omega)]; omega
set_option maxRecDepth 20000 in
theorem pm_X9_sumOfProducts : mj_mmof pg_ms 157 = some ((⟨"ArrayCalculator$TwoAct", "sumOfProducts", "(LArrayCalculator$Value;ILArrayCalculator$Value;II)J"⟩, prog_11_method_15_code, 13, (Option.some Jvm.ClassFile.FieldType.long)), 9, false, mj_dec prog_11_method_15_code) := rfl
theorem dm_X9_sumOfProducts_0 : mj_dec prog_11_method_15_code 0 = some (.lconst 0, 1) := by decide +kernel
theorem dm_X9_sumOfProducts_1 : mj_dec prog_11_method_15_code 1 = some (.lstore 6, 2) := by decide +kernel
theorem dm_X9_sumOfProducts_3 : mj_dec prog_11_method_15_code 3 = some (.iconst 0, 1) := by decide +kernel
theorem dm_X9_sumOfProducts_4 : mj_dec prog_11_method_15_code 4 = some (.istore 8, 2) := by decide +kernel
theorem dm_X9_sumOfProducts_6 : mj_dec prog_11_method_15_code 6 = some (.iload 8, 2) := by decide +kernel
theorem dm_X9_sumOfProducts_8 : mj_dec prog_11_method_15_code 8 = some (.aload_n 3, 1) := by decide +kernel
theorem dm_X9_sumOfProducts_9 : mj_dec prog_11_method_15_code 9 = some (.getfield 94, 3) := by decide +kernel
theorem dm_X9_sumOfProducts_12 : mj_dec prog_11_method_15_code 12 = some (.if_icmp .ge 74, 3) := by decide +kernel
theorem dm_X9_sumOfProducts_15 : mj_dec prog_11_method_15_code 15 = some (.aload_n 1, 1) := by decide +kernel
theorem dm_X9_sumOfProducts_16 : mj_dec prog_11_method_15_code 16 = some (.iload_n 2, 1) := by decide +kernel
theorem dm_X9_sumOfProducts_17 : mj_dec prog_11_method_15_code 17 = some (.iload 8, 2) := by decide +kernel
theorem dm_X9_sumOfProducts_19 : mj_dec prog_11_method_15_code 19 = some (.iadd, 1) := by decide +kernel
theorem dm_X9_sumOfProducts_20 : mj_dec prog_11_method_15_code 20 = some (.invokevirtual 129, 3) := by decide +kernel
theorem dm_X9_sumOfProducts_23 : mj_dec prog_11_method_15_code 23 = some (.lstore 9, 2) := by decide +kernel
theorem dm_X9_sumOfProducts_25 : mj_dec prog_11_method_15_code 25 = some (.aload_n 3, 1) := by decide +kernel
theorem dm_X9_sumOfProducts_26 : mj_dec prog_11_method_15_code 26 = some (.iload 4, 2) := by decide +kernel
theorem dm_X9_sumOfProducts_28 : mj_dec prog_11_method_15_code 28 = some (.iload 8, 2) := by decide +kernel
theorem dm_X9_sumOfProducts_30 : mj_dec prog_11_method_15_code 30 = some (.iload 5, 2) := by decide +kernel
theorem dm_X9_sumOfProducts_32 : mj_dec prog_11_method_15_code 32 = some (.imul, 1) := by decide +kernel
theorem dm_X9_sumOfProducts_33 : mj_dec prog_11_method_15_code 33 = some (.iadd, 1) := by decide +kernel
theorem dm_X9_sumOfProducts_34 : mj_dec prog_11_method_15_code 34 = some (.invokevirtual 129, 3) := by decide +kernel
theorem dm_X9_sumOfProducts_37 : mj_dec prog_11_method_15_code 37 = some (.lstore 11, 2) := by decide +kernel
theorem dm_X9_sumOfProducts_39 : mj_dec prog_11_method_15_code 39 = some (.lload 9, 2) := by decide +kernel
theorem dm_X9_sumOfProducts_41 : mj_dec prog_11_method_15_code 41 = some (.lload 11, 2) := by decide +kernel
theorem dm_X9_sumOfProducts_43 : mj_dec prog_11_method_15_code 43 = some (.invokestatic 209, 3) := by decide +kernel
theorem dm_X9_sumOfProducts_46 : mj_dec prog_11_method_15_code 46 = some (.ifCond .ne 16, 3) := by decide +kernel
theorem dm_X9_sumOfProducts_49 : mj_dec prog_11_method_15_code 49 = some (.lload 6, 2) := by decide +kernel
theorem dm_X9_sumOfProducts_51 : mj_dec prog_11_method_15_code 51 = some (.lload 9, 2) := by decide +kernel
theorem dm_X9_sumOfProducts_53 : mj_dec prog_11_method_15_code 53 = some (.lload 11, 2) := by decide +kernel
theorem dm_X9_sumOfProducts_55 : mj_dec prog_11_method_15_code 55 = some (.lmul, 1) := by decide +kernel
theorem dm_X9_sumOfProducts_56 : mj_dec prog_11_method_15_code 56 = some (.invokestatic 213, 3) := by decide +kernel
theorem dm_X9_sumOfProducts_59 : mj_dec prog_11_method_15_code 59 = some (.ifCond .eq 11, 3) := by decide +kernel
theorem dm_X9_sumOfProducts_62 : mj_dec prog_11_method_15_code 62 = some (.aload_n 0, 1) := by decide +kernel
theorem dm_X9_sumOfProducts_63 : mj_dec prog_11_method_15_code 63 = some (.bipush 6, 2) := by decide +kernel
theorem dm_X9_sumOfProducts_65 : mj_dec prog_11_method_15_code 65 = some (.putfield 197, 3) := by decide +kernel
theorem dm_X9_sumOfProducts_68 : mj_dec prog_11_method_15_code 68 = some (.lconst 0, 1) := by decide +kernel
theorem dm_X9_sumOfProducts_69 : mj_dec prog_11_method_15_code 69 = some (.lreturn, 1) := by decide +kernel
theorem dm_X9_sumOfProducts_70 : mj_dec prog_11_method_15_code 70 = some (.lload 6, 2) := by decide +kernel
theorem dm_X9_sumOfProducts_72 : mj_dec prog_11_method_15_code 72 = some (.lload 9, 2) := by decide +kernel
theorem dm_X9_sumOfProducts_74 : mj_dec prog_11_method_15_code 74 = some (.lload 11, 2) := by decide +kernel
theorem dm_X9_sumOfProducts_76 : mj_dec prog_11_method_15_code 76 = some (.lmul, 1) := by decide +kernel
theorem dm_X9_sumOfProducts_77 : mj_dec prog_11_method_15_code 77 = some (.ladd, 1) := by decide +kernel
theorem dm_X9_sumOfProducts_78 : mj_dec prog_11_method_15_code 78 = some (.lstore 6, 2) := by decide +kernel
theorem dm_X9_sumOfProducts_80 : mj_dec prog_11_method_15_code 80 = some (.iinc 8 1, 3) := by decide +kernel
theorem dm_X9_sumOfProducts_83 : mj_dec prog_11_method_15_code 83 = some (.goto (-77), 3) := by decide +kernel
theorem dm_X9_sumOfProducts_86 : mj_dec prog_11_method_15_code 86 = some (.lload 6, 2) := by decide +kernel
theorem dm_X9_sumOfProducts_88 : mj_dec prog_11_method_15_code 88 = some (.lreturn, 1) := by decide +kernel
theorem t_sumOfProducts {xt : mj_X} {d e p q fr0 s0 st0 : Nat} {A : Nat → Prop} {h : mj_H} {v w : VV} {ft0 : Int} {f1 : Nat → Value} (hx1 : xt 1 = some (.long, 0, f1)) (hd : 3 ≤ d) (hv : cv A h (e + 1) p v) (hw : cv A h (e + 1) q w) (hv7 : vk v ≠ 7) (hw7 : vk w ≠ 7) (h26 : h[26]? = some (cO 9 [.ref 27, .ref 29, .ref 30, .ref 31, ii ft0])) (hx1_ : ∀ k, k < vm w → fr0 + k < vq v) (hx2_ : ∀ k, k < vm w → s0 + k * st0 < vq w) : pgV xt d 157 [.ref 26, .ref p, ii ((fr0 : Nat) : Int), .ref q, ii ((s0 : Nat) : Int), ii ((st0 : Nat) : Int)] h (fun x h' => x = .long (sopV (sop (fun k => vn v (fr0 + k)) (fun k => vn w (s0 + k * st0)) (vm w))) ∧ h' = h.set 26 (cO 9 [.ref 27, .ref 29, .ref 30, .ref 31, ii (sopE (sop (fun k => vn v (fr0 + k)) (fun k => vn w (s0 + k * st0)) (vm w)) ft0)])) := by
  obtain ⟨row, fr, vals, hp, hp2, hpA, hvk, hvm, hvc, hvs, hvl⟩ := cv_val hv
  obtain ⟨row2, fr2, vals2, hq, hq2, hqA, hwk, hwm, hwc, hws, hwl⟩ := cv_val hw
  have hvq9 := vq_le hv.1
  have hwq9 := vq_le hw.1
  refine x_enter pm_X9_sumOfProducts (L0 := [(0, .ref 26), (1, .ref p), (2, ii ((fr0 : Nat) : Int)), (3, .ref q), (4, ii ((s0 : Nat) : Int)), (5, ii ((st0 : Nat) : Int))]) rfl (Nat.le_of_ble_eq_true rfl) (by omega) ?_
  refine me0 (pc' := 1) (S' := [.long (Int64.ofInt 0)]) dm_X9_sumOfProducts_0 rfl rfl rfl rfl ?_
  refine me1 (pc' := 3) (L' := [(6, .long (Int64.ofInt 0)), (0, .ref 26), (1, .ref p), (2, ii ((fr0 : Nat) : Int)), (3, .ref q), (4, ii ((s0 : Nat) : Int)), (5, ii ((st0 : Nat) : Int))]) (S' := []) dm_X9_sumOfProducts_1 rfl rfl rfl rfl ?_
  refine me0 (pc' := 4) (S' := [ii 0]) dm_X9_sumOfProducts_3 rfl rfl rfl rfl ?_
  refine me1 (pc' := 6) (L' := [(8, ii 0), (6, .long (Int64.ofInt 0)), (0, .ref 26), (1, .ref p), (2, ii ((fr0 : Nat) : Int)), (3, .ref q), (4, ii ((s0 : Nat) : Int)), (5, ii ((st0 : Nat) : Int))]) (S' := []) dm_X9_sumOfProducts_4 rfl rfl rfl rfl ?_
  have lp6 : ∀ (n6 : Nat) (k : Nat) (s : Int64), vm w - k = n6 → (k ≤ vm w) → ((sop (fun k => vn v (fr0 + k)) (fun k => vn w (s0 + k * st0)) k) = some s) → pgE xt (d - 1) 9 13 false (Option.some Jvm.ClassFile.FieldType.long) (mj_dec prog_11_method_15_code) 6 [(0, .ref 26), (1, .ref p), (2, ii ((fr0 : Nat) : Int)), (3, .ref q), (4, ii ((s0 : Nat) : Int)), (5, ii ((st0 : Nat) : Int)), (6, .long s), (8, ii ((k : Nat) : Int))] [] h (fun r h' => ∃ x, r = some x ∧ (fun x h' => x = .long (sopV (sop (fun k => vn v (fr0 + k)) (fun k => vn w (s0 + k * st0)) (vm w))) ∧ h' = h.set 26 (cO 9 [.ref 27, .ref 29, .ref 30, .ref 31, ii (sopE (sop (fun k => vn v (fr0 + k)) (fun k => vn w (s0 + k * st0)) (vm w)) ft0)])) x h') := by
    intro n6
    induction n6 using Nat.strongRecOn with
    | ind n6 ih6 =>
      intro k s hm6 hk hs
      refine me1 (pc' := 8) (L' := [(0, .ref 26), (1, .ref p), (2, ii ((fr0 : Nat) : Int)), (3, .ref q), (4, ii ((s0 : Nat) : Int)), (5, ii ((st0 : Nat) : Int)), (6, .long s), (8, ii ((k : Nat) : Int))]) (S' := [ii ((k : Nat) : Int)]) dm_X9_sumOfProducts_6 rfl rfl rfl rfl ?_
      refine me1 (pc' := 9) (L' := [(0, .ref 26), (1, .ref p), (2, ii ((fr0 : Nat) : Int)), (3, .ref q), (4, ii ((s0 : Nat) : Int)), (5, ii ((st0 : Nat) : Int)), (6, .long s), (8, ii ((k : Nat) : Int))]) (S' := [.ref q, ii ((k : Nat) : Int)]) dm_X9_sumOfProducts_8 rfl rfl rfl rfl ?_
      refine me3 (pc' := 12) (S' := [ii (vm w : Int), ii ((k : Nat) : Int)]) dm_X9_sumOfProducts_9 (g_get (v := ii (vm w : Int)) hq rfl rfl (by omega)) rfl rfl rfl ?_
      refine y_2ge (a := ((k : Nat) : Int)) (b := (vm w : Int)) (t := 86) (pc' := 15) dm_X9_sumOfProducts_12 rfl rfl (by omega) (fun hb1 => ?_) (fun hb1 => ?_)
      · refine me1 (pc' := 88) (L' := [(0, .ref 26), (1, .ref p), (2, ii ((fr0 : Nat) : Int)), (3, .ref q), (4, ii ((s0 : Nat) : Int)), (5, ii ((st0 : Nat) : Int)), (6, .long s), (8, ii ((k : Nat) : Int))]) (S' := [.long s]) dm_X9_sumOfProducts_86 rfl rfl rfl rfl ?_
        refine y_ret (r := some (.long s)) dm_X9_sumOfProducts_88 rfl rfl rfl ?_
        have hkn : k = vm w := by omega
        rw [hkn] at hs
        exact ⟨_, rfl, by rw [hs]; rfl, by rw [hs]; exact (hl_self h26).symm⟩
      · have hi1 := hx1_ k (by omega)
        have hi2 := hx2_ k (by omega)
        refine me1 (pc' := 16) (L' := [(0, .ref 26), (1, .ref p), (2, ii ((fr0 : Nat) : Int)), (3, .ref q), (4, ii ((s0 : Nat) : Int)), (5, ii ((st0 : Nat) : Int)), (6, .long s), (8, ii ((k : Nat) : Int))]) (S' := [.ref p]) dm_X9_sumOfProducts_15 rfl rfl rfl rfl ?_
        refine me1 (pc' := 17) (L' := [(0, .ref 26), (1, .ref p), (2, ii ((fr0 : Nat) : Int)), (3, .ref q), (4, ii ((s0 : Nat) : Int)), (5, ii ((st0 : Nat) : Int)), (6, .long s), (8, ii ((k : Nat) : Int))]) (S' := [ii ((fr0 : Nat) : Int), .ref p]) dm_X9_sumOfProducts_16 rfl rfl rfl rfl ?_
        refine me1 (pc' := 19) (L' := [(0, .ref 26), (1, .ref p), (2, ii ((fr0 : Nat) : Int)), (3, .ref q), (4, ii ((s0 : Nat) : Int)), (5, ii ((st0 : Nat) : Int)), (6, .long s), (8, ii ((k : Nat) : Int))]) (S' := [ii ((k : Nat) : Int), ii ((fr0 : Nat) : Int), .ref p]) dm_X9_sumOfProducts_17 rfl rfl rfl rfl ?_
        refine y_iadd (a := ((fr0 : Nat) : Int)) (b := ((k : Nat) : Int)) dm_X9_sumOfProducts_19 (pc' := 20) rfl ?_
        refine pg_st0 (S' := [ii ((fr0 + k : Nat) : Int), .ref p]) (congrArg (fun z => ii z :: [.ref p]) (by push_cast; rfl)) ?_
        refine x_cp (pc' := 23) (v := .long (vn v (fr0 + k))) (rest := []) dm_X9_sumOfProducts_20 rfl (g_inv (As := [ii ((fr0 + k : Nat) : Int)]) (S := []) hp rfl rfl rfl (by omega)) rfl rfl rfl ((show pgP xt (d - 1) _ _ _ (.long (vn v (fr0 + k))) from vnum_q (v := v) (k := fr0 + k) hv.1 (by omega) (by omega) ▸ c_numberAt (i := ((fr0 + k : Nat) : Int)) hx1 (by omega) hv (by omega))) ?_
        refine me1 (pc' := 25) (L' := [(9, .long (vn v (fr0 + k))), (0, .ref 26), (1, .ref p), (2, ii ((fr0 : Nat) : Int)), (3, .ref q), (4, ii ((s0 : Nat) : Int)), (5, ii ((st0 : Nat) : Int)), (6, .long s), (8, ii ((k : Nat) : Int))]) (S' := []) dm_X9_sumOfProducts_23 rfl rfl rfl rfl ?_
        refine me1 (pc' := 26) (L' := [(9, .long (vn v (fr0 + k))), (0, .ref 26), (1, .ref p), (2, ii ((fr0 : Nat) : Int)), (3, .ref q), (4, ii ((s0 : Nat) : Int)), (5, ii ((st0 : Nat) : Int)), (6, .long s), (8, ii ((k : Nat) : Int))]) (S' := [.ref q]) dm_X9_sumOfProducts_25 rfl rfl rfl rfl ?_
        refine me1 (pc' := 28) (L' := [(9, .long (vn v (fr0 + k))), (0, .ref 26), (1, .ref p), (2, ii ((fr0 : Nat) : Int)), (3, .ref q), (4, ii ((s0 : Nat) : Int)), (5, ii ((st0 : Nat) : Int)), (6, .long s), (8, ii ((k : Nat) : Int))]) (S' := [ii ((s0 : Nat) : Int), .ref q]) dm_X9_sumOfProducts_26 rfl rfl rfl rfl ?_
        refine me1 (pc' := 30) (L' := [(9, .long (vn v (fr0 + k))), (0, .ref 26), (1, .ref p), (2, ii ((fr0 : Nat) : Int)), (3, .ref q), (4, ii ((s0 : Nat) : Int)), (5, ii ((st0 : Nat) : Int)), (6, .long s), (8, ii ((k : Nat) : Int))]) (S' := [ii ((k : Nat) : Int), ii ((s0 : Nat) : Int), .ref q]) dm_X9_sumOfProducts_28 rfl rfl rfl rfl ?_
        refine me1 (pc' := 32) (L' := [(9, .long (vn v (fr0 + k))), (0, .ref 26), (1, .ref p), (2, ii ((fr0 : Nat) : Int)), (3, .ref q), (4, ii ((s0 : Nat) : Int)), (5, ii ((st0 : Nat) : Int)), (6, .long s), (8, ii ((k : Nat) : Int))]) (S' := [ii ((st0 : Nat) : Int), ii ((k : Nat) : Int), ii ((s0 : Nat) : Int), .ref q]) dm_X9_sumOfProducts_30 rfl rfl rfl rfl ?_
        refine y_imul (a := ((k : Nat) : Int)) (b := ((st0 : Nat) : Int)) dm_X9_sumOfProducts_32 (pc' := 33) rfl ?_
        refine y_iadd (a := ((s0 : Nat) : Int)) (b := ((k : Nat) : Int) * ((st0 : Nat) : Int)) dm_X9_sumOfProducts_33 (pc' := 34) rfl ?_
        refine pg_st0 (S' := [ii ((s0 + k * st0 : Nat) : Int), .ref q]) (congrArg (fun z => ii z :: [.ref q]) (by push_cast; rfl)) ?_
        refine x_cp (pc' := 37) (v := .long (vn w (s0 + k * st0))) (rest := []) dm_X9_sumOfProducts_34 rfl (g_inv (As := [ii ((s0 + k * st0 : Nat) : Int)]) (S := []) hq rfl rfl rfl (by omega)) rfl rfl rfl ((show pgP xt (d - 1) _ _ _ (.long (vn w (s0 + k * st0))) from vnum_q (v := w) (k := s0 + k * st0) hw.1 (by omega) (by omega) ▸ c_numberAt (i := ((s0 + k * st0 : Nat) : Int)) hx1 (by omega) hw (by omega))) ?_
        refine me1 (pc' := 39) (L' := [(11, .long (vn w (s0 + k * st0))), (9, .long (vn v (fr0 + k))), (0, .ref 26), (1, .ref p), (2, ii ((fr0 : Nat) : Int)), (3, .ref q), (4, ii ((s0 : Nat) : Int)), (5, ii ((st0 : Nat) : Int)), (6, .long s), (8, ii ((k : Nat) : Int))]) (S' := []) dm_X9_sumOfProducts_37 rfl rfl rfl rfl ?_
        refine me1 (pc' := 41) (L' := [(11, .long (vn w (s0 + k * st0))), (9, .long (vn v (fr0 + k))), (0, .ref 26), (1, .ref p), (2, ii ((fr0 : Nat) : Int)), (3, .ref q), (4, ii ((s0 : Nat) : Int)), (5, ii ((st0 : Nat) : Int)), (6, .long s), (8, ii ((k : Nat) : Int))]) (S' := [.long (vn v (fr0 + k))]) dm_X9_sumOfProducts_39 rfl rfl rfl rfl ?_
        refine me1 (pc' := 43) (L' := [(11, .long (vn w (s0 + k * st0))), (9, .long (vn v (fr0 + k))), (0, .ref 26), (1, .ref p), (2, ii ((fr0 : Nat) : Int)), (3, .ref q), (4, ii ((s0 : Nat) : Int)), (5, ii ((st0 : Nat) : Int)), (6, .long s), (8, ii ((k : Nat) : Int))]) (S' := [.long (vn w (s0 + k * st0)), .long (vn v (fr0 + k))]) dm_X9_sumOfProducts_41 rfl rfl rfl rfl ?_
        refine x_cp (pc' := 46) (v := zz (ovf ((vn v (fr0 + k)).toInt * (vn w (s0 + k * st0)).toInt))) (rest := []) dm_X9_sumOfProducts_43 rfl (g_invs (As := [.long (vn v (fr0 + k)), .long (vn w (s0 + k * st0))]) (S := []) rfl rfl rfl) rfl rfl rfl (p_beyondProduct (by omega)) ?_
        refine y_zne (c := ovf ((vn v (fr0 + k)).toInt * (vn w (s0 + k * st0)).toInt)) (t := 62) (pc' := 49) dm_X9_sumOfProducts_46 rfl rfl (fun hb2 => ?_) (fun hb2 => ?_)
        · refine me1 (pc' := 63) (L' := [(11, .long (vn w (s0 + k * st0))), (9, .long (vn v (fr0 + k))), (0, .ref 26), (1, .ref p), (2, ii ((fr0 : Nat) : Int)), (3, .ref q), (4, ii ((s0 : Nat) : Int)), (5, ii ((st0 : Nat) : Int)), (6, .long s), (8, ii ((k : Nat) : Int))]) (S' := [.ref 26]) dm_X9_sumOfProducts_62 rfl rfl rfl rfl ?_
          refine me0 (pc' := 65) (S' := [ii 6, .ref 26]) dm_X9_sumOfProducts_63 rfl rfl rfl rfl ?_
          refine me3 (pc' := 68) (S' := []) (h1 := (h).set 26 (cO 9 [.ref 27, .ref 29, .ref 30, .ref 31, ii 6])) dm_X9_sumOfProducts_65 (g_put (fs' := [.ref 27, .ref 29, .ref 30, .ref 31, ii 6]) h26 rfl rfl rfl (by simp) rfl (by decide) (fun z => by cases z) (by decide)) rfl rfl rfl ?_
          refine me0 (pc' := 69) (S' := [.long (Int64.ofInt 0)]) dm_X9_sumOfProducts_68 rfl rfl rfl rfl ?_
          refine y_ret (r := some (.long (Int64.ofInt 0))) dm_X9_sumOfProducts_69 rfl rfl rfl ?_
          have hno : (sop (fun k => vn v (fr0 + k)) (fun k => vn w (s0 + k * st0)) (vm w)) = none := sop_n hs (by first | exact Or.inl (by assumption) | exact Or.inr (by assumption)) (by omega)
          exact ⟨_, rfl, by rw [hno]; rfl, by rw [hno]; rfl⟩
        · refine me1 (pc' := 51) (L' := [(11, .long (vn w (s0 + k * st0))), (9, .long (vn v (fr0 + k))), (0, .ref 26), (1, .ref p), (2, ii ((fr0 : Nat) : Int)), (3, .ref q), (4, ii ((s0 : Nat) : Int)), (5, ii ((st0 : Nat) : Int)), (6, .long s), (8, ii ((k : Nat) : Int))]) (S' := [.long s]) dm_X9_sumOfProducts_49 rfl rfl rfl rfl ?_
          refine me1 (pc' := 53) (L' := [(11, .long (vn w (s0 + k * st0))), (9, .long (vn v (fr0 + k))), (0, .ref 26), (1, .ref p), (2, ii ((fr0 : Nat) : Int)), (3, .ref q), (4, ii ((s0 : Nat) : Int)), (5, ii ((st0 : Nat) : Int)), (6, .long s), (8, ii ((k : Nat) : Int))]) (S' := [.long (vn v (fr0 + k)), .long s]) dm_X9_sumOfProducts_51 rfl rfl rfl rfl ?_
          refine me1 (pc' := 55) (L' := [(11, .long (vn w (s0 + k * st0))), (9, .long (vn v (fr0 + k))), (0, .ref 26), (1, .ref p), (2, ii ((fr0 : Nat) : Int)), (3, .ref q), (4, ii ((s0 : Nat) : Int)), (5, ii ((st0 : Nat) : Int)), (6, .long s), (8, ii ((k : Nat) : Int))]) (S' := [.long (vn w (s0 + k * st0)), .long (vn v (fr0 + k)), .long s]) dm_X9_sumOfProducts_53 rfl rfl rfl rfl ?_
          refine me0 (pc' := 56) (S' := [.long ((vn v (fr0 + k)) * (vn w (s0 + k * st0))), .long s]) dm_X9_sumOfProducts_55 rfl rfl rfl rfl ?_
          refine x_cp (pc' := 59) (v := zz (ovf ((s).toInt + ((vn v (fr0 + k)) * (vn w (s0 + k * st0))).toInt))) (rest := []) dm_X9_sumOfProducts_56 rfl (g_invs (As := [.long s, .long ((vn v (fr0 + k)) * (vn w (s0 + k * st0)))]) (S := []) rfl rfl rfl) rfl rfl rfl (p_beyondSum (by omega)) ?_
          refine y_zeq (c := ovf ((s).toInt + ((vn v (fr0 + k)) * (vn w (s0 + k * st0))).toInt)) (t := 70) (pc' := 62) dm_X9_sumOfProducts_59 rfl rfl (fun hb3 => ?_) (fun hb3 => ?_)
          · refine me1 (pc' := 72) (L' := [(11, .long (vn w (s0 + k * st0))), (9, .long (vn v (fr0 + k))), (0, .ref 26), (1, .ref p), (2, ii ((fr0 : Nat) : Int)), (3, .ref q), (4, ii ((s0 : Nat) : Int)), (5, ii ((st0 : Nat) : Int)), (6, .long s), (8, ii ((k : Nat) : Int))]) (S' := [.long s]) dm_X9_sumOfProducts_70 rfl rfl rfl rfl ?_
            refine me1 (pc' := 74) (L' := [(11, .long (vn w (s0 + k * st0))), (9, .long (vn v (fr0 + k))), (0, .ref 26), (1, .ref p), (2, ii ((fr0 : Nat) : Int)), (3, .ref q), (4, ii ((s0 : Nat) : Int)), (5, ii ((st0 : Nat) : Int)), (6, .long s), (8, ii ((k : Nat) : Int))]) (S' := [.long (vn v (fr0 + k)), .long s]) dm_X9_sumOfProducts_72 rfl rfl rfl rfl ?_
            refine me1 (pc' := 76) (L' := [(11, .long (vn w (s0 + k * st0))), (9, .long (vn v (fr0 + k))), (0, .ref 26), (1, .ref p), (2, ii ((fr0 : Nat) : Int)), (3, .ref q), (4, ii ((s0 : Nat) : Int)), (5, ii ((st0 : Nat) : Int)), (6, .long s), (8, ii ((k : Nat) : Int))]) (S' := [.long (vn w (s0 + k * st0)), .long (vn v (fr0 + k)), .long s]) dm_X9_sumOfProducts_74 rfl rfl rfl rfl ?_
            refine me0 (pc' := 77) (S' := [.long ((vn v (fr0 + k)) * (vn w (s0 + k * st0))), .long s]) dm_X9_sumOfProducts_76 rfl rfl rfl rfl ?_
            refine me0 (pc' := 78) (S' := [.long (s + ((vn v (fr0 + k)) * (vn w (s0 + k * st0))))]) dm_X9_sumOfProducts_77 rfl rfl rfl rfl ?_
            refine me1 (pc' := 80) (L' := [(6, .long (s + ((vn v (fr0 + k)) * (vn w (s0 + k * st0))))), (11, .long (vn w (s0 + k * st0))), (9, .long (vn v (fr0 + k))), (0, .ref 26), (1, .ref p), (2, ii ((fr0 : Nat) : Int)), (3, .ref q), (4, ii ((s0 : Nat) : Int)), (5, ii ((st0 : Nat) : Int)), (8, ii ((k : Nat) : Int))]) (S' := []) dm_X9_sumOfProducts_78 rfl rfl rfl rfl ?_
            refine y_iinc (pc' := 83) (L' := [(8, ii (((k : Nat) : Int) + 1)), (6, .long (s + ((vn v (fr0 + k)) * (vn w (s0 + k * st0))))), (11, .long (vn w (s0 + k * st0))), (9, .long (vn v (fr0 + k))), (0, .ref 26), (1, .ref p), (2, ii ((fr0 : Nat) : Int)), (3, .ref q), (4, ii ((s0 : Nat) : Int)), (5, ii ((st0 : Nat) : Int))]) dm_X9_sumOfProducts_80 (y_incp (a := ((k : Nat) : Int)) (c := 1) rfl rfl (by decide)) rfl ?_
            refine me2 (pc' := 6) (S' := []) dm_X9_sumOfProducts_83 rfl rfl rfl ?_
            exact pg_sub (L := [(0, .ref 26), (1, .ref p), (2, ii ((fr0 : Nat) : Int)), (3, .ref q), (4, ii ((s0 : Nat) : Int)), (5, ii ((st0 : Nat) : Int)), (6, .long (s + vn v (fr0 + k) * vn w (s0 + k * st0))), (8, ii (((k + 1) : Nat) : Int))]) rfl rfl rfl (ih6 (vm w - (k + 1)) (by omega) (k + 1) (s + vn v (fr0 + k) * vn w (s0 + k * st0)) rfl (by omega) (sop_s hs (by assumption) (by assumption)))
          · refine me1 (pc' := 63) (L' := [(11, .long (vn w (s0 + k * st0))), (9, .long (vn v (fr0 + k))), (0, .ref 26), (1, .ref p), (2, ii ((fr0 : Nat) : Int)), (3, .ref q), (4, ii ((s0 : Nat) : Int)), (5, ii ((st0 : Nat) : Int)), (6, .long s), (8, ii ((k : Nat) : Int))]) (S' := [.ref 26]) dm_X9_sumOfProducts_62 rfl rfl rfl rfl ?_
            refine me0 (pc' := 65) (S' := [ii 6, .ref 26]) dm_X9_sumOfProducts_63 rfl rfl rfl rfl ?_
            refine me3 (pc' := 68) (S' := []) (h1 := (h).set 26 (cO 9 [.ref 27, .ref 29, .ref 30, .ref 31, ii 6])) dm_X9_sumOfProducts_65 (g_put (fs' := [.ref 27, .ref 29, .ref 30, .ref 31, ii 6]) h26 rfl rfl rfl (by simp) rfl (by decide) (fun z => by cases z) (by decide)) rfl rfl rfl ?_
            refine me0 (pc' := 69) (S' := [.long (Int64.ofInt 0)]) dm_X9_sumOfProducts_68 rfl rfl rfl rfl ?_
            refine y_ret (r := some (.long (Int64.ofInt 0))) dm_X9_sumOfProducts_69 rfl rfl rfl ?_
            have hno : (sop (fun k => vn v (fr0 + k)) (fun k => vn w (s0 + k * st0)) (vm w)) = none := sop_n hs (by first | exact Or.inl (by assumption) | exact Or.inr (by assumption)) (by omega)
            exact ⟨_, rfl, by rw [hno]; rfl, by rw [hno]; rfl⟩
  exact pg_sub (L := [(0, .ref 26), (1, .ref p), (2, ii ((fr0 : Nat) : Int)), (3, .ref q), (4, ii ((s0 : Nat) : Int)), (5, ii ((st0 : Nat) : Int)), (6, .long (Int64.ofInt 0)), (8, ii ((0 : Nat) : Int))]) rfl rfl rfl (lp6 _ 0 (Int64.ofInt 0) rfl (Nat.zero_le _) rfl)
set_option maxRecDepth 20000 in
theorem pm_X9_inner : mj_mmof pg_ms 156 = some ((⟨"ArrayCalculator$TwoAct", "inner", "(LArrayCalculator$Value;LArrayCalculator$Value;)LArrayCalculator$Value;"⟩, prog_11_method_14_code, 11, (Option.some (Jvm.ClassFile.FieldType.object "ArrayCalculator$Value"))), 9, false, mj_dec prog_11_method_14_code) := rfl
theorem dm_X9_inner_0 : mj_dec prog_11_method_14_code 0 = some (.aload_n 1, 1) := by decide +kernel
theorem dm_X9_inner_1 : mj_dec prog_11_method_14_code 1 = some (.invokevirtual 133, 3) := by decide +kernel
theorem dm_X9_inner_4 : mj_dec prog_11_method_14_code 4 = some (.ifCond .ne 12, 3) := by decide +kernel
theorem dm_X9_inner_7 : mj_dec prog_11_method_14_code 7 = some (.aload_n 1, 1) := by decide +kernel
theorem dm_X9_inner_8 : mj_dec prog_11_method_14_code 8 = some (.getfield 102, 3) := by decide +kernel
theorem dm_X9_inner_11 : mj_dec prog_11_method_14_code 11 = some (.bipush 6, 2) := by decide +kernel
theorem dm_X9_inner_13 : mj_dec prog_11_method_14_code 13 = some (.if_icmp .ne 19, 3) := by decide +kernel
theorem dm_X9_inner_16 : mj_dec prog_11_method_14_code 16 = some (.aload_n 2, 1) := by decide +kernel
theorem dm_X9_inner_17 : mj_dec prog_11_method_14_code 17 = some (.invokevirtual 133, 3) := by decide +kernel
theorem dm_X9_inner_20 : mj_dec prog_11_method_14_code 20 = some (.ifCond .ne 17, 3) := by decide +kernel
theorem dm_X9_inner_23 : mj_dec prog_11_method_14_code 23 = some (.aload_n 2, 1) := by decide +kernel
theorem dm_X9_inner_24 : mj_dec prog_11_method_14_code 24 = some (.getfield 102, 3) := by decide +kernel
theorem dm_X9_inner_27 : mj_dec prog_11_method_14_code 27 = some (.bipush 6, 2) := by decide +kernel
theorem dm_X9_inner_29 : mj_dec prog_11_method_14_code 29 = some (.if_icmp .eq 8, 3) := by decide +kernel
theorem dm_X9_inner_32 : mj_dec prog_11_method_14_code 32 = some (.iconst 3, 1) := by decide +kernel
theorem dm_X9_inner_33 : mj_dec prog_11_method_14_code 33 = some (.invokestatic 81, 3) := by decide +kernel
theorem dm_X9_inner_36 : mj_dec prog_11_method_14_code 36 = some (.areturn, 1) := by decide +kernel
theorem dm_X9_inner_37 : mj_dec prog_11_method_14_code 37 = some (.aload_n 1, 1) := by decide +kernel
theorem dm_X9_inner_38 : mj_dec prog_11_method_14_code 38 = some (.invokevirtual 91, 3) := by decide +kernel
theorem dm_X9_inner_41 : mj_dec prog_11_method_14_code 41 = some (.ifCond .ne 10, 3) := by decide +kernel
theorem dm_X9_inner_44 : mj_dec prog_11_method_14_code 44 = some (.aload_n 2, 1) := by decide +kernel
theorem dm_X9_inner_45 : mj_dec prog_11_method_14_code 45 = some (.invokevirtual 91, 3) := by decide +kernel
theorem dm_X9_inner_48 : mj_dec prog_11_method_14_code 48 = some (.ifCond .eq 8, 3) := by decide +kernel
theorem dm_X9_inner_51 : mj_dec prog_11_method_14_code 51 = some (.iconst 5, 1) := by decide +kernel
theorem dm_X9_inner_52 : mj_dec prog_11_method_14_code 52 = some (.invokestatic 81, 3) := by decide +kernel
theorem dm_X9_inner_55 : mj_dec prog_11_method_14_code 55 = some (.areturn, 1) := by decide +kernel
theorem dm_X9_inner_56 : mj_dec prog_11_method_14_code 56 = some (.aload_n 1, 1) := by decide +kernel
theorem dm_X9_inner_57 : mj_dec prog_11_method_14_code 57 = some (.getfield 102, 3) := by decide +kernel
theorem dm_X9_inner_60 : mj_dec prog_11_method_14_code 60 = some (.bipush 6, 2) := by decide +kernel
theorem dm_X9_inner_62 : mj_dec prog_11_method_14_code 62 = some (.if_icmp .ne 10, 3) := by decide +kernel
theorem dm_X9_inner_65 : mj_dec prog_11_method_14_code 65 = some (.aload_n 1, 1) := by decide +kernel
theorem dm_X9_inner_66 : mj_dec prog_11_method_14_code 66 = some (.getfield 113, 3) := by decide +kernel
theorem dm_X9_inner_69 : mj_dec prog_11_method_14_code 69 = some (.goto 7, 3) := by decide +kernel
theorem dm_X9_inner_72 : mj_dec prog_11_method_14_code 72 = some (.aload_n 1, 1) := by decide +kernel
theorem dm_X9_inner_73 : mj_dec prog_11_method_14_code 73 = some (.getfield 94, 3) := by decide +kernel
theorem dm_X9_inner_76 : mj_dec prog_11_method_14_code 76 = some (.istore_n 3, 1) := by decide +kernel
theorem dm_X9_inner_77 : mj_dec prog_11_method_14_code 77 = some (.iload_n 3, 1) := by decide +kernel
theorem dm_X9_inner_78 : mj_dec prog_11_method_14_code 78 = some (.aload_n 2, 1) := by decide +kernel
theorem dm_X9_inner_79 : mj_dec prog_11_method_14_code 79 = some (.getfield 94, 3) := by decide +kernel
theorem dm_X9_inner_82 : mj_dec prog_11_method_14_code 82 = some (.if_icmp .eq 8, 3) := by decide +kernel
theorem dm_X9_inner_85 : mj_dec prog_11_method_14_code 85 = some (.iconst 4, 1) := by decide +kernel
theorem dm_X9_inner_86 : mj_dec prog_11_method_14_code 86 = some (.invokestatic 81, 3) := by decide +kernel
theorem dm_X9_inner_89 : mj_dec prog_11_method_14_code 89 = some (.areturn, 1) := by decide +kernel
theorem dm_X9_inner_90 : mj_dec prog_11_method_14_code 90 = some (.aload_n 1, 1) := by decide +kernel
theorem dm_X9_inner_91 : mj_dec prog_11_method_14_code 91 = some (.getfield 102, 3) := by decide +kernel
theorem dm_X9_inner_94 : mj_dec prog_11_method_14_code 94 = some (.bipush 6, 2) := by decide +kernel
theorem dm_X9_inner_96 : mj_dec prog_11_method_14_code 96 = some (.if_icmp .ne 10, 3) := by decide +kernel
theorem dm_X9_inner_99 : mj_dec prog_11_method_14_code 99 = some (.aload_n 1, 1) := by decide +kernel
theorem dm_X9_inner_100 : mj_dec prog_11_method_14_code 100 = some (.getfield 94, 3) := by decide +kernel
theorem dm_X9_inner_103 : mj_dec prog_11_method_14_code 103 = some (.goto 4, 3) := by decide +kernel
theorem dm_X9_inner_106 : mj_dec prog_11_method_14_code 106 = some (.iconst 1, 1) := by decide +kernel
theorem dm_X9_inner_107 : mj_dec prog_11_method_14_code 107 = some (.istore 4, 2) := by decide +kernel
theorem dm_X9_inner_109 : mj_dec prog_11_method_14_code 109 = some (.aload_n 2, 1) := by decide +kernel
theorem dm_X9_inner_110 : mj_dec prog_11_method_14_code 110 = some (.getfield 102, 3) := by decide +kernel
theorem dm_X9_inner_113 : mj_dec prog_11_method_14_code 113 = some (.bipush 6, 2) := by decide +kernel
theorem dm_X9_inner_115 : mj_dec prog_11_method_14_code 115 = some (.if_icmp .ne 10, 3) := by decide +kernel
theorem dm_X9_inner_118 : mj_dec prog_11_method_14_code 118 = some (.aload_n 2, 1) := by decide +kernel
theorem dm_X9_inner_119 : mj_dec prog_11_method_14_code 119 = some (.getfield 113, 3) := by decide +kernel
theorem dm_X9_inner_122 : mj_dec prog_11_method_14_code 122 = some (.goto 4, 3) := by decide +kernel
theorem dm_X9_inner_125 : mj_dec prog_11_method_14_code 125 = some (.iconst 1, 1) := by decide +kernel
theorem dm_X9_inner_126 : mj_dec prog_11_method_14_code 126 = some (.istore 5, 2) := by decide +kernel
theorem dm_X9_inner_128 : mj_dec prog_11_method_14_code 128 = some (.aload_n 1, 1) := by decide +kernel
theorem dm_X9_inner_129 : mj_dec prog_11_method_14_code 129 = some (.getfield 102, 3) := by decide +kernel
theorem dm_X9_inner_132 : mj_dec prog_11_method_14_code 132 = some (.bipush 6, 2) := by decide +kernel
theorem dm_X9_inner_134 : mj_dec prog_11_method_14_code 134 = some (.if_icmp .ne 16, 3) := by decide +kernel
theorem dm_X9_inner_137 : mj_dec prog_11_method_14_code 137 = some (.aload_n 2, 1) := by decide +kernel
theorem dm_X9_inner_138 : mj_dec prog_11_method_14_code 138 = some (.getfield 102, 3) := by decide +kernel
theorem dm_X9_inner_141 : mj_dec prog_11_method_14_code 141 = some (.bipush 6, 2) := by decide +kernel
theorem dm_X9_inner_143 : mj_dec prog_11_method_14_code 143 = some (.if_icmp .ne 7, 3) := by decide +kernel
theorem dm_X9_inner_146 : mj_dec prog_11_method_14_code 146 = some (.iconst 1, 1) := by decide +kernel
theorem dm_X9_inner_147 : mj_dec prog_11_method_14_code 147 = some (.goto 4, 3) := by decide +kernel
theorem dm_X9_inner_150 : mj_dec prog_11_method_14_code 150 = some (.iconst 0, 1) := by decide +kernel
theorem dm_X9_inner_151 : mj_dec prog_11_method_14_code 151 = some (.istore 6, 2) := by decide +kernel
theorem dm_X9_inner_153 : mj_dec prog_11_method_14_code 153 = some (.aload_n 0, 1) := by decide +kernel
theorem dm_X9_inner_154 : mj_dec prog_11_method_14_code 154 = some (.iconst 0, 1) := by decide +kernel
theorem dm_X9_inner_155 : mj_dec prog_11_method_14_code 155 = some (.putfield 197, 3) := by decide +kernel
theorem dm_X9_inner_158 : mj_dec prog_11_method_14_code 158 = some (.iconst 0, 1) := by decide +kernel
theorem dm_X9_inner_159 : mj_dec prog_11_method_14_code 159 = some (.istore 7, 2) := by decide +kernel
theorem dm_X9_inner_161 : mj_dec prog_11_method_14_code 161 = some (.iload 7, 2) := by decide +kernel
theorem dm_X9_inner_163 : mj_dec prog_11_method_14_code 163 = some (.iload 4, 2) := by decide +kernel
theorem dm_X9_inner_165 : mj_dec prog_11_method_14_code 165 = some (.if_icmp .ge 89, 3) := by decide +kernel
theorem dm_X9_inner_168 : mj_dec prog_11_method_14_code 168 = some (.aload_n 0, 1) := by decide +kernel
theorem dm_X9_inner_169 : mj_dec prog_11_method_14_code 169 = some (.getfield 197, 3) := by decide +kernel
theorem dm_X9_inner_172 : mj_dec prog_11_method_14_code 172 = some (.ifCond .ne 82, 3) := by decide +kernel
theorem dm_X9_inner_175 : mj_dec prog_11_method_14_code 175 = some (.iconst 0, 1) := by decide +kernel
theorem dm_X9_inner_176 : mj_dec prog_11_method_14_code 176 = some (.istore 8, 2) := by decide +kernel
theorem dm_X9_inner_178 : mj_dec prog_11_method_14_code 178 = some (.iload 8, 2) := by decide +kernel
theorem dm_X9_inner_180 : mj_dec prog_11_method_14_code 180 = some (.iload 5, 2) := by decide +kernel
theorem dm_X9_inner_182 : mj_dec prog_11_method_14_code 182 = some (.if_icmp .ge 66, 3) := by decide +kernel
theorem dm_X9_inner_185 : mj_dec prog_11_method_14_code 185 = some (.aload_n 0, 1) := by decide +kernel
theorem dm_X9_inner_186 : mj_dec prog_11_method_14_code 186 = some (.getfield 197, 3) := by decide +kernel
theorem dm_X9_inner_189 : mj_dec prog_11_method_14_code 189 = some (.ifCond .ne 59, 3) := by decide +kernel
theorem dm_X9_inner_192 : mj_dec prog_11_method_14_code 192 = some (.aload_n 0, 1) := by decide +kernel
theorem dm_X9_inner_193 : mj_dec prog_11_method_14_code 193 = some (.aload_n 1, 1) := by decide +kernel
theorem dm_X9_inner_194 : mj_dec prog_11_method_14_code 194 = some (.iload 7, 2) := by decide +kernel
theorem dm_X9_inner_196 : mj_dec prog_11_method_14_code 196 = some (.iload_n 3, 1) := by decide +kernel
theorem dm_X9_inner_197 : mj_dec prog_11_method_14_code 197 = some (.imul, 1) := by decide +kernel
theorem dm_X9_inner_198 : mj_dec prog_11_method_14_code 198 = some (.aload_n 2, 1) := by decide +kernel
theorem dm_X9_inner_199 : mj_dec prog_11_method_14_code 199 = some (.iload 8, 2) := by decide +kernel
theorem dm_X9_inner_201 : mj_dec prog_11_method_14_code 201 = some (.iload 5, 2) := by decide +kernel
theorem dm_X9_inner_203 : mj_dec prog_11_method_14_code 203 = some (.invokevirtual 199, 3) := by decide +kernel
theorem dm_X9_inner_206 : mj_dec prog_11_method_14_code 206 = some (.lstore 9, 2) := by decide +kernel
theorem dm_X9_inner_208 : mj_dec prog_11_method_14_code 208 = some (.aload_n 0, 1) := by decide +kernel
theorem dm_X9_inner_209 : mj_dec prog_11_method_14_code 209 = some (.getfield 22, 3) := by decide +kernel
theorem dm_X9_inner_212 : mj_dec prog_11_method_14_code 212 = some (.iload 7, 2) := by decide +kernel
theorem dm_X9_inner_214 : mj_dec prog_11_method_14_code 214 = some (.iload 5, 2) := by decide +kernel
theorem dm_X9_inner_216 : mj_dec prog_11_method_14_code 216 = some (.imul, 1) := by decide +kernel
theorem dm_X9_inner_217 : mj_dec prog_11_method_14_code 217 = some (.iload 8, 2) := by decide +kernel
theorem dm_X9_inner_219 : mj_dec prog_11_method_14_code 219 = some (.iadd, 1) := by decide +kernel
theorem dm_X9_inner_220 : mj_dec prog_11_method_14_code 220 = some (.lload 9, 2) := by decide +kernel
theorem dm_X9_inner_222 : mj_dec prog_11_method_14_code 222 = some (.lastore, 1) := by decide +kernel
theorem dm_X9_inner_223 : mj_dec prog_11_method_14_code 223 = some (.iload 6, 2) := by decide +kernel
theorem dm_X9_inner_225 : mj_dec prog_11_method_14_code 225 = some (.ifCond .eq 17, 3) := by decide +kernel
theorem dm_X9_inner_228 : mj_dec prog_11_method_14_code 228 = some (.lload 9, 2) := by decide +kernel
theorem dm_X9_inner_230 : mj_dec prog_11_method_14_code 230 = some (.invokestatic 163, 3) := by decide +kernel
theorem dm_X9_inner_233 : mj_dec prog_11_method_14_code 233 = some (.ifCond .ne 9, 3) := by decide +kernel
theorem dm_X9_inner_236 : mj_dec prog_11_method_14_code 236 = some (.aload_n 0, 1) := by decide +kernel
theorem dm_X9_inner_237 : mj_dec prog_11_method_14_code 237 = some (.bipush 6, 2) := by decide +kernel
theorem dm_X9_inner_239 : mj_dec prog_11_method_14_code 239 = some (.putfield 197, 3) := by decide +kernel
theorem dm_X9_inner_242 : mj_dec prog_11_method_14_code 242 = some (.iinc 8 1, 3) := by decide +kernel
theorem dm_X9_inner_245 : mj_dec prog_11_method_14_code 245 = some (.goto (-67), 3) := by decide +kernel
theorem dm_X9_inner_248 : mj_dec prog_11_method_14_code 248 = some (.iinc 7 1, 3) := by decide +kernel
theorem dm_X9_inner_251 : mj_dec prog_11_method_14_code 251 = some (.goto (-90), 3) := by decide +kernel
theorem dm_X9_inner_254 : mj_dec prog_11_method_14_code 254 = some (.aload_n 0, 1) := by decide +kernel
theorem dm_X9_inner_255 : mj_dec prog_11_method_14_code 255 = some (.getfield 197, 3) := by decide +kernel
theorem dm_X9_inner_258 : mj_dec prog_11_method_14_code 258 = some (.ifCond .eq 11, 3) := by decide +kernel
theorem dm_X9_inner_261 : mj_dec prog_11_method_14_code 261 = some (.aload_n 0, 1) := by decide +kernel
theorem dm_X9_inner_262 : mj_dec prog_11_method_14_code 262 = some (.getfield 197, 3) := by decide +kernel
theorem dm_X9_inner_265 : mj_dec prog_11_method_14_code 265 = some (.invokestatic 81, 3) := by decide +kernel
theorem dm_X9_inner_268 : mj_dec prog_11_method_14_code 268 = some (.areturn, 1) := by decide +kernel
theorem dm_X9_inner_269 : mj_dec prog_11_method_14_code 269 = some (.aload_n 1, 1) := by decide +kernel
theorem dm_X9_inner_270 : mj_dec prog_11_method_14_code 270 = some (.invokevirtual 133, 3) := by decide +kernel
theorem dm_X9_inner_273 : mj_dec prog_11_method_14_code 273 = some (.ifCond .eq 20, 3) := by decide +kernel
theorem dm_X9_inner_276 : mj_dec prog_11_method_14_code 276 = some (.aload_n 2, 1) := by decide +kernel
theorem dm_X9_inner_277 : mj_dec prog_11_method_14_code 277 = some (.invokevirtual 133, 3) := by decide +kernel
theorem dm_X9_inner_280 : mj_dec prog_11_method_14_code 280 = some (.ifCond .eq 13, 3) := by decide +kernel
theorem dm_X9_inner_283 : mj_dec prog_11_method_14_code 283 = some (.aload_n 0, 1) := by decide +kernel
theorem dm_X9_inner_284 : mj_dec prog_11_method_14_code 284 = some (.getfield 22, 3) := by decide +kernel
theorem dm_X9_inner_287 : mj_dec prog_11_method_14_code 287 = some (.iconst 0, 1) := by decide +kernel
theorem dm_X9_inner_288 : mj_dec prog_11_method_14_code 288 = some (.laload, 1) := by decide +kernel
theorem dm_X9_inner_289 : mj_dec prog_11_method_14_code 289 = some (.invokestatic 36, 3) := by decide +kernel
theorem dm_X9_inner_292 : mj_dec prog_11_method_14_code 292 = some (.areturn, 1) := by decide +kernel
theorem dm_X9_inner_293 : mj_dec prog_11_method_14_code 293 = some (.aload_n 0, 1) := by decide +kernel
theorem dm_X9_inner_294 : mj_dec prog_11_method_14_code 294 = some (.getfield 22, 3) := by decide +kernel
theorem dm_X9_inner_297 : mj_dec prog_11_method_14_code 297 = some (.iload 4, 2) := by decide +kernel
theorem dm_X9_inner_299 : mj_dec prog_11_method_14_code 299 = some (.iload 5, 2) := by decide +kernel
theorem dm_X9_inner_301 : mj_dec prog_11_method_14_code 301 = some (.imul, 1) := by decide +kernel
theorem dm_X9_inner_302 : mj_dec prog_11_method_14_code 302 = some (.invokestatic 203, 3) := by decide +kernel
theorem dm_X9_inner_305 : mj_dec prog_11_method_14_code 305 = some (.astore 7, 2) := by decide +kernel
theorem dm_X9_inner_307 : mj_dec prog_11_method_14_code 307 = some (.iload 6, 2) := by decide +kernel
theorem dm_X9_inner_309 : mj_dec prog_11_method_14_code 309 = some (.ifCond .eq 15, 3) := by decide +kernel
theorem dm_X9_inner_312 : mj_dec prog_11_method_14_code 312 = some (.aload 7, 2) := by decide +kernel
theorem dm_X9_inner_314 : mj_dec prog_11_method_14_code 314 = some (.iload 4, 2) := by decide +kernel
theorem dm_X9_inner_316 : mj_dec prog_11_method_14_code 316 = some (.iload 5, 2) := by decide +kernel
theorem dm_X9_inner_318 : mj_dec prog_11_method_14_code 318 = some (.invokestatic 116, 3) := by decide +kernel
theorem dm_X9_inner_321 : mj_dec prog_11_method_14_code 321 = some (.goto 8, 3) := by decide +kernel
theorem dm_X9_inner_324 : mj_dec prog_11_method_14_code 324 = some (.aload 7, 2) := by decide +kernel
theorem dm_X9_inner_326 : mj_dec prog_11_method_14_code 326 = some (.invokestatic 109, 3) := by decide +kernel
theorem dm_X9_inner_329 : mj_dec prog_11_method_14_code 329 = some (.areturn, 1) := by decide +kernel
theorem t_inner {xt : mj_X} {d e p q : Nat} {A : Nat → Prop} {h : mj_H} {v w : VV} {f1 : Nat → Value} (hx1 : xt 1 = some (.long, 0, f1)) (hd : 8 ≤ d) (hl : 127 ≤ h.length) (hA : okA A h) (hH : actH h) (hv : cv A h (e + 1) p v) (hw : cv A h (e + 1) q w) (he : e ≤ 20) (hset : vsz (e + 1) v ≤ 1000) (hset2 : vsz (e + 1) w ≤ 1000) (hcl : cloneOK xt) : pgV xt d 156 [.ref 26, .ref p, .ref q] h (aact A h (e + 1) (d_inner v w) 2 (inL v * inC w + 9)) := by
  obtain ⟨-, -, -, -, -, -, -, -, ⟨ft0, h26⟩, -, -, ⟨pf0, h29⟩, ⟨nf0, h30⟩, ⟨uf0, h31⟩⟩ := id hH
  have hcv := vw1_c hv.1
  have hcw := vw1_c hw.1
  obtain ⟨row, fr, vals, hp, hp2, hpA, hvk, hvm, hvc, hvs, hvl⟩ := cv_val hv
  obtain ⟨row2, fr2, vals2, hq, hq2, hqA, hwk, hwm, hwc, hws, hwl⟩ := cv_val hw
  have hpb := hA p hpA
  have hqb := hA q hqA
  have hvq9 := vq_le hv.1
  have hwq9 := vq_le hw.1
  refine x_enter pm_X9_inner (L0 := [(0, .ref 26), (1, .ref p), (2, .ref q)]) rfl (Nat.le_of_ble_eq_true rfl) (by omega) ?_
  have cut153 : (2 ≤ vk v ∧ vk v ≤ 6 ∧ 2 ≤ vk w ∧ vk w ≤ 6) → (¬ (vk v = 3 ∨ vk w = 3)) → (inA v = vm w) → pgE xt (d - 1) 9 11 false (Option.some (Jvm.ClassFile.FieldType.object "ArrayCalculator$Value")) (mj_dec prog_11_method_14_code) 153 [(0, .ref 26), (1, .ref p), (2, .ref q), (3, ii ((inA v : Nat) : Int)), (4, ii ((inL v : Nat) : Int)), (5, ii ((inC w : Nat) : Int)), (6, zz (decide (vk v = 6 ∧ vk w = 6)))] [] h (fun r h' => ∃ x, r = some x ∧ aact A h (e + 1) (d_inner v w) 2 (inL v * inC w + 9) x h') := by
    intro hrt hns hal
    have hcp : 0 < inC w := by unfold inC; split <;> omega
    have hlp : inL v ≤ 12 := by unfold inL; split <;> omega
    have hcp2 : inC w ≤ 12 := by unfold inC; split <;> omega
    have hap : inA v ≤ 120 := by unfold inA; split <;> omega
    have hnn : inL v * inC w ≤ 144 := Nat.mul_le_mul hlp hcp2
    refine me1 (pc' := 154) (L' := [(0, .ref 26), (1, .ref p), (2, .ref q), (3, ii ((inA v : Nat) : Int)), (4, ii ((inL v : Nat) : Int)), (5, ii ((inC w : Nat) : Int)), (6, zz (decide (vk v = 6 ∧ vk w = 6)))]) (S' := [.ref 26]) dm_X9_inner_153 rfl rfl rfl rfl ?_
    refine me0 (pc' := 155) (S' := [ii 0, .ref 26]) dm_X9_inner_154 rfl rfl rfl rfl ?_
    refine me3 (pc' := 158) (S' := []) (h1 := (h).set 26 (cO 9 [.ref 27, .ref 29, .ref 30, .ref 31, ii 0])) dm_X9_inner_155 (g_put (fs' := [.ref 27, .ref 29, .ref 30, .ref 31, ii 0]) h26 rfl rfl rfl (by simp) rfl (by decide) (fun z => by cases z) (by decide)) rfl rfl rfl ?_
    refine me0 (pc' := 159) (S' := [ii 0]) dm_X9_inner_158 rfl rfl rfl rfl ?_
    refine me1 (pc' := 161) (L' := [(7, ii 0), (0, .ref 26), (1, .ref p), (2, .ref q), (3, ii ((inA v : Nat) : Int)), (4, ii ((inL v : Nat) : Int)), (5, ii ((inC w : Nat) : Int)), (6, zz (decide (vk v = 6 ∧ vk w = 6)))]) (S' := []) dm_X9_inner_159 rfl rfl rfl rfl ?_
    have lp161 : ∀ (n161 : Nat) (r : Nat) (ft : Int) (G : Nat → Int64), inL v - r = n161 → (r ≤ inL v) → (ft = errs (inB v w) (r * inC w)) → (ft = 0 → ∀ j, j < r * inC w → G j = sopV (inO v w j)) → pgE xt (d - 1) 9 11 false (Option.some (Jvm.ClassFile.FieldType.object "ArrayCalculator$Value")) (mj_dec prog_11_method_14_code) 161 [(0, .ref 26), (1, .ref p), (2, .ref q), (3, ii ((inA v : Nat) : Int)), (4, ii ((inL v : Nat) : Int)), (5, ii ((inC w : Nat) : Int)), (6, zz (decide (vk v = 6 ∧ vk w = 6))), (7, ii ((r : Nat) : Int))] [] (((h).set 26 (cO 9 [.ref 27, .ref 29, .ref 30, .ref 31, ii ft])).set 30 (cJ 144 G)) (fun r h' => ∃ x, r = some x ∧ aact A h (e + 1) (d_inner v w) 2 (inL v * inC w + 9) x h') := by
      intro n161
      induction n161 using Nat.strongRecOn with
      | ind n161 ih161 =>
        intro r ft G hm161 hr hft hG
        have hftr : ft = 0 ∨ ft = 6 := by rw [hft]; exact errs_01 (inB_r v w) (r * inC w)
        have hrN : r * inC w ≤ inL v * inC w := Nat.mul_le_mul_right _ hr
        refine me1 (pc' := 163) (L' := [(0, .ref 26), (1, .ref p), (2, .ref q), (3, ii ((inA v : Nat) : Int)), (4, ii ((inL v : Nat) : Int)), (5, ii ((inC w : Nat) : Int)), (6, zz (decide (vk v = 6 ∧ vk w = 6))), (7, ii ((r : Nat) : Int))]) (S' := [ii ((r : Nat) : Int)]) dm_X9_inner_161 rfl rfl rfl rfl ?_
        refine me1 (pc' := 165) (L' := [(0, .ref 26), (1, .ref p), (2, .ref q), (3, ii ((inA v : Nat) : Int)), (4, ii ((inL v : Nat) : Int)), (5, ii ((inC w : Nat) : Int)), (6, zz (decide (vk v = 6 ∧ vk w = 6))), (7, ii ((r : Nat) : Int))]) (S' := [ii ((inL v : Nat) : Int), ii ((r : Nat) : Int)]) dm_X9_inner_163 rfl rfl rfl rfl ?_
        refine y_2ge (a := ((r : Nat) : Int)) (b := ((inL v : Nat) : Int)) (t := 254) (pc' := 168) dm_X9_inner_165 rfl rfl (by omega) (fun hb1 => ?_) (fun hb1 => ?_)
        · refine me1 (pc' := 255) (L' := [(0, .ref 26), (1, .ref p), (2, .ref q), (3, ii ((inA v : Nat) : Int)), (4, ii ((inL v : Nat) : Int)), (5, ii ((inC w : Nat) : Int)), (6, zz (decide (vk v = 6 ∧ vk w = 6))), (7, ii ((r : Nat) : Int))]) (S' := [.ref 26]) dm_X9_inner_254 rfl rfl rfl rfl ?_
          refine me3 (pc' := 258) (S' := [ii ft]) dm_X9_inner_255 (g_get (v := ii ft) (hl_ne (by decide) (hl_set (hl_lt h26))) rfl rfl (by decide)) rfl rfl rfl ?_
          refine y_1eq (a := ft) (t := 269) (pc' := 261) dm_X9_inner_258 rfl rfl (by omega) (fun hb2 => ?_) (fun hb2 => ?_)
          · refine me1 (pc' := 270) (L' := [(0, .ref 26), (1, .ref p), (2, .ref q), (3, ii ((inA v : Nat) : Int)), (4, ii ((inL v : Nat) : Int)), (5, ii ((inC w : Nat) : Int)), (6, zz (decide (vk v = 6 ∧ vk w = 6))), (7, ii ((r : Nat) : Int))]) (S' := [.ref p]) dm_X9_inner_269 rfl rfl rfl rfl ?_
            refine x_cp (pc' := 273) (v := zz (decide (2 ≤ vk v ∧ vk v ≤ 5))) (rest := []) dm_X9_inner_270 rfl (g_inv (As := []) (S := []) (hl_ne (by omega) (hl_ne (by omega) hp)) rfl rfl rfl (by omega)) rfl rfl rfl (c_isRow (by omega) (cv_set (nA hA (Or.inl (by decide))) (cv_set (nA hA (Or.inl (by decide))) hv))) ?_
            refine y_zeq (c := decide (2 ≤ vk v ∧ vk v ≤ 5)) (t := 293) (pc' := 276) dm_X9_inner_273 rfl rfl (fun hb3 => ?_) (fun hb3 => ?_)
            · replace hb3 := dF hb3
              refine me1 (pc' := 294) (L' := [(0, .ref 26), (1, .ref p), (2, .ref q), (3, ii ((inA v : Nat) : Int)), (4, ii ((inL v : Nat) : Int)), (5, ii ((inC w : Nat) : Int)), (6, zz (decide (vk v = 6 ∧ vk w = 6))), (7, ii ((r : Nat) : Int))]) (S' := [.ref 26]) dm_X9_inner_293 rfl rfl rfl rfl ?_
              refine me3 (pc' := 297) (S' := [.ref 30]) dm_X9_inner_294 (g_get (v := .ref 30) (hl_ne (by decide) (hl_set (hl_lt h26))) rfl rfl (by decide)) rfl rfl rfl ?_
              refine me1 (pc' := 299) (L' := [(0, .ref 26), (1, .ref p), (2, .ref q), (3, ii ((inA v : Nat) : Int)), (4, ii ((inL v : Nat) : Int)), (5, ii ((inC w : Nat) : Int)), (6, zz (decide (vk v = 6 ∧ vk w = 6))), (7, ii ((r : Nat) : Int))]) (S' := [ii ((inL v : Nat) : Int), .ref 30]) dm_X9_inner_297 rfl rfl rfl rfl ?_
              refine me1 (pc' := 301) (L' := [(0, .ref 26), (1, .ref p), (2, .ref q), (3, ii ((inA v : Nat) : Int)), (4, ii ((inL v : Nat) : Int)), (5, ii ((inC w : Nat) : Int)), (6, zz (decide (vk v = 6 ∧ vk w = 6))), (7, ii ((r : Nat) : Int))]) (S' := [ii ((inC w : Nat) : Int), ii ((inL v : Nat) : Int), .ref 30]) dm_X9_inner_299 rfl rfl rfl rfl ?_
              refine y_imul (a := ((inL v : Nat) : Int)) (b := ((inC w : Nat) : Int)) dm_X9_inner_301 (pc' := 302) rfl ?_
              refine pg_st0 (S' := [ii ((inL v * inC w : Nat) : Int), .ref 30]) (congrArg (fun z => ii z :: [.ref 30]) (by push_cast; rfl)) ?_
              refine x_cv (pc' := 305) (rest := []) dm_X9_inner_302 rfl (g_invs (As := [.ref 30, ii ((inL v * inC w : Nat) : Int)]) (S := []) rfl rfl rfl) rfl rfl rfl (j_copyOfA hcl (n := inL v * inC w) (q := h.length) (by omega) (by simp; omega) (by simp) (hl_set (hl_lt (hl_ne (by decide) h30))) (by decide) (by omega) (by omega)) ?_
              rintro _ _ ⟨rfl, rfl⟩
              refine me1 (pc' := 307) (L' := [(7, .ref h.length), (0, .ref 26), (1, .ref p), (2, .ref q), (3, ii ((inA v : Nat) : Int)), (4, ii ((inL v : Nat) : Int)), (5, ii ((inC w : Nat) : Int)), (6, zz (decide (vk v = 6 ∧ vk w = 6)))]) (S' := []) dm_X9_inner_305 rfl rfl rfl rfl ?_
              refine me1 (pc' := 309) (L' := [(7, .ref h.length), (0, .ref 26), (1, .ref p), (2, .ref q), (3, ii ((inA v : Nat) : Int)), (4, ii ((inL v : Nat) : Int)), (5, ii ((inC w : Nat) : Int)), (6, zz (decide (vk v = 6 ∧ vk w = 6)))]) (S' := [zz (decide (vk v = 6 ∧ vk w = 6))]) dm_X9_inner_307 rfl rfl rfl rfl ?_
              refine y_zeq (c := decide (vk v = 6 ∧ vk w = 6)) (t := 324) (pc' := 312) dm_X9_inner_309 rfl rfl (fun hb4 => ?_) (fun hb4 => ?_)
              · replace hb4 := dF hb4
                refine me1 (pc' := 326) (L' := [(7, .ref h.length), (0, .ref 26), (1, .ref p), (2, .ref q), (3, ii ((inA v : Nat) : Int)), (4, ii ((inL v : Nat) : Int)), (5, ii ((inC w : Nat) : Int)), (6, zz (decide (vk v = 6 ∧ vk w = 6)))]) (S' := [.ref h.length]) dm_X9_inner_324 rfl rfl rfl rfl ?_
                refine x_cv (pc' := 329) (rest := []) dm_X9_inner_326 rfl (g_invs (As := [.ref h.length]) (S := []) rfl rfl rfl) rfl rfl rfl (c_numberRow (hx1 := hx1) (q := h.length + 1) (by omega) (by simp; omega) (by simp) (show rowAt (fun _ => True) _ _ _ _ from Or.inr ⟨by omega, (hl_newa (by simp)), by omega, trivial⟩) (by omega)) ?_
                rintro _ _ ⟨rfl, rfl⟩
                refine y_ret (r := some (.ref (h.length + 1))) dm_X9_inner_329 rfl rfl rfl ?_
                have hf0 : ft = 0 := by omega
                have hin : r * inC w = inL v * inC w := by rw [show r = inL v by omega]
                have hG2 : ∀ j, j < inL v * inC w → G j = sopV (inO v w j) := fun j hj => hG hf0 j (by omega)
                have he0 : errs (inB v w) (inL v * inC w) = 0 := by rw [← hin]; omega
                refine ⟨_, rfl, (h.set 26 (cO 9 [.ref 27, .ref 29, .ref 30, .ref 31, ii ft])).set 30 (cJ 144 G), scrS_tr (scrS_set (e' := cO 9 [.ref 27, .ref 29, .ref 30, .ref 31, ii ft]) (by unfold scr; decide) h26 rfl) (scrS_set (e' := cJ 144 G) (by unfold scr; decide) (hl_ne (by decide) h30) rfl), actH_30 (actH_26 hH _) _, ?_⟩
                have hvf := vform_le (m := inL v * inC w) (f := fun i => sopV (inO v w i))
                rw [show d_inner v w = .inr (vrow (vform (inL v * inC w) (fun i => sopV (inO v w i))) (inL v * inC w) (fun i => sopV (inO v w i))) by unfold d_inner; rw [if_neg (by omega), if_neg (by omega), if_neg (by omega), if_neg (by omega), if_neg (by omega), if_neg (by assumption)]]
                have hn12 : inL v * inC w ≤ 120 := by first | (have h1 : inL v = 1 := if_neg (by omega); rw [h1]; unfold inC; split <;> omega) | (have h2 : inC w = 1 := if_neg (by omega); rw [h2]; unfold inL; split <;> omega)
                exact vres_rowL (by simp) hl (by omega) (by omega) hn12 (by rw [vform_congr (g := fun i => sopV (inO v w i)) (fun j hj => by rw [cpy_at hj]; exact hG2 j hj)]) (fun j hj => by rw [cpy_at hj]; exact hG2 j hj) (by omega) (by omega)
              · replace hb4 := dT hb4
                refine me1 (pc' := 314) (L' := [(7, .ref h.length), (0, .ref 26), (1, .ref p), (2, .ref q), (3, ii ((inA v : Nat) : Int)), (4, ii ((inL v : Nat) : Int)), (5, ii ((inC w : Nat) : Int)), (6, zz (decide (vk v = 6 ∧ vk w = 6)))]) (S' := [.ref h.length]) dm_X9_inner_312 rfl rfl rfl rfl ?_
                refine me1 (pc' := 316) (L' := [(7, .ref h.length), (0, .ref 26), (1, .ref p), (2, .ref q), (3, ii ((inA v : Nat) : Int)), (4, ii ((inL v : Nat) : Int)), (5, ii ((inC w : Nat) : Int)), (6, zz (decide (vk v = 6 ∧ vk w = 6)))]) (S' := [ii ((inL v : Nat) : Int), .ref h.length]) dm_X9_inner_314 rfl rfl rfl rfl ?_
                refine me1 (pc' := 318) (L' := [(7, .ref h.length), (0, .ref 26), (1, .ref p), (2, .ref q), (3, ii ((inA v : Nat) : Int)), (4, ii ((inL v : Nat) : Int)), (5, ii ((inC w : Nat) : Int)), (6, zz (decide (vk v = 6 ∧ vk w = 6)))]) (S' := [ii ((inC w : Nat) : Int), ii ((inL v : Nat) : Int), .ref h.length]) dm_X9_inner_316 rfl rfl rfl rfl ?_
                refine x_cv (pc' := 321) (rest := []) dm_X9_inner_318 rfl (g_invs (As := [.ref h.length, ii ((inL v : Nat) : Int), ii ((inC w : Nat) : Int)]) (S := []) rfl rfl rfl) rfl rfl rfl (c_table (q := h.length + 1) (by omega) (by simp; omega) (by simp) (by omega) (by omega)) ?_
                rintro _ _ ⟨rfl, rfl⟩
                refine me2 (pc' := 329) (S' := [.ref (h.length + 1)]) dm_X9_inner_321 rfl rfl rfl ?_
                refine y_ret (r := some (.ref (h.length + 1))) dm_X9_inner_329 rfl rfl rfl ?_
                have hf0 : ft = 0 := by omega
                have hin : r * inC w = inL v * inC w := by rw [show r = inL v by omega]
                have hG2 : ∀ j, j < inL v * inC w → G j = sopV (inO v w j) := fun j hj => hG hf0 j (by omega)
                have he0 : errs (inB v w) (inL v * inC w) = 0 := by rw [← hin]; omega
                refine ⟨_, rfl, (h.set 26 (cO 9 [.ref 27, .ref 29, .ref 30, .ref 31, ii ft])).set 30 (cJ 144 G), scrS_tr (scrS_set (e' := cO 9 [.ref 27, .ref 29, .ref 30, .ref 31, ii ft]) (by unfold scr; decide) h26 rfl) (scrS_set (e' := cJ 144 G) (by unfold scr; decide) (hl_ne (by decide) h30) rfl), actH_30 (actH_26 hH _) _, ?_⟩
                rw [show d_inner v w = .inr (vtab (inL v) (inC w) (fun i => sopV (inO v w i))) by unfold d_inner; rw [if_neg (by omega), if_neg (by omega), if_neg (by omega), if_neg (by omega), if_neg (by omega), if_pos (by assumption)]]
                have hsm : vk v = 6 ∧ vk w = 6 := by assumption
                have hL6 : inL v = vm v := if_pos hsm.1
                have hC6 : inC w = vc w := if_pos hsm.2
                have hv6 := hv.1.2.2.2.1 hsm.1
                have hw6 := hw.1.2.2.2.1 hsm.2
                exact vres_flatL (w := vtab (inL v) (inC w) (fun i => sopV (inO v w i))) (by simp) hl (vw1_tab (by omega) (by omega) (by omega) (by omega) (fun k hk => inB_fit (errs_all he0 k hk) hsm.1 hsm.2)) (by show 2 ≤ 6; omega) (by show 6 ≤ 6; omega) (by rw [vq_tab]) (fun j hj => by rw [cpy_at hj]; exact hG2 j hj) (by omega) (by omega)
            · replace hb3 := dT hb3
              refine me1 (pc' := 277) (L' := [(0, .ref 26), (1, .ref p), (2, .ref q), (3, ii ((inA v : Nat) : Int)), (4, ii ((inL v : Nat) : Int)), (5, ii ((inC w : Nat) : Int)), (6, zz (decide (vk v = 6 ∧ vk w = 6))), (7, ii ((r : Nat) : Int))]) (S' := [.ref q]) dm_X9_inner_276 rfl rfl rfl rfl ?_
              refine x_cp (pc' := 280) (v := zz (decide (2 ≤ vk w ∧ vk w ≤ 5))) (rest := []) dm_X9_inner_277 rfl (g_inv (As := []) (S := []) (hl_ne (by omega) (hl_ne (by omega) hq)) rfl rfl rfl (by omega)) rfl rfl rfl (c_isRow (by omega) (cv_set (nA hA (Or.inl (by decide))) (cv_set (nA hA (Or.inl (by decide))) hw))) ?_
              refine y_zeq (c := decide (2 ≤ vk w ∧ vk w ≤ 5)) (t := 293) (pc' := 283) dm_X9_inner_280 rfl rfl (fun hb5 => ?_) (fun hb5 => ?_)
              · replace hb5 := dF hb5
                refine me1 (pc' := 294) (L' := [(0, .ref 26), (1, .ref p), (2, .ref q), (3, ii ((inA v : Nat) : Int)), (4, ii ((inL v : Nat) : Int)), (5, ii ((inC w : Nat) : Int)), (6, zz (decide (vk v = 6 ∧ vk w = 6))), (7, ii ((r : Nat) : Int))]) (S' := [.ref 26]) dm_X9_inner_293 rfl rfl rfl rfl ?_
                refine me3 (pc' := 297) (S' := [.ref 30]) dm_X9_inner_294 (g_get (v := .ref 30) (hl_ne (by decide) (hl_set (hl_lt h26))) rfl rfl (by decide)) rfl rfl rfl ?_
                refine me1 (pc' := 299) (L' := [(0, .ref 26), (1, .ref p), (2, .ref q), (3, ii ((inA v : Nat) : Int)), (4, ii ((inL v : Nat) : Int)), (5, ii ((inC w : Nat) : Int)), (6, zz (decide (vk v = 6 ∧ vk w = 6))), (7, ii ((r : Nat) : Int))]) (S' := [ii ((inL v : Nat) : Int), .ref 30]) dm_X9_inner_297 rfl rfl rfl rfl ?_
                refine me1 (pc' := 301) (L' := [(0, .ref 26), (1, .ref p), (2, .ref q), (3, ii ((inA v : Nat) : Int)), (4, ii ((inL v : Nat) : Int)), (5, ii ((inC w : Nat) : Int)), (6, zz (decide (vk v = 6 ∧ vk w = 6))), (7, ii ((r : Nat) : Int))]) (S' := [ii ((inC w : Nat) : Int), ii ((inL v : Nat) : Int), .ref 30]) dm_X9_inner_299 rfl rfl rfl rfl ?_
                refine y_imul (a := ((inL v : Nat) : Int)) (b := ((inC w : Nat) : Int)) dm_X9_inner_301 (pc' := 302) rfl ?_
                refine pg_st0 (S' := [ii ((inL v * inC w : Nat) : Int), .ref 30]) (congrArg (fun z => ii z :: [.ref 30]) (by push_cast; rfl)) ?_
                refine x_cv (pc' := 305) (rest := []) dm_X9_inner_302 rfl (g_invs (As := [.ref 30, ii ((inL v * inC w : Nat) : Int)]) (S := []) rfl rfl rfl) rfl rfl rfl (j_copyOfA hcl (n := inL v * inC w) (q := h.length) (by omega) (by simp; omega) (by simp) (hl_set (hl_lt (hl_ne (by decide) h30))) (by decide) (by omega) (by omega)) ?_
                rintro _ _ ⟨rfl, rfl⟩
                refine me1 (pc' := 307) (L' := [(7, .ref h.length), (0, .ref 26), (1, .ref p), (2, .ref q), (3, ii ((inA v : Nat) : Int)), (4, ii ((inL v : Nat) : Int)), (5, ii ((inC w : Nat) : Int)), (6, zz (decide (vk v = 6 ∧ vk w = 6)))]) (S' := []) dm_X9_inner_305 rfl rfl rfl rfl ?_
                refine me1 (pc' := 309) (L' := [(7, .ref h.length), (0, .ref 26), (1, .ref p), (2, .ref q), (3, ii ((inA v : Nat) : Int)), (4, ii ((inL v : Nat) : Int)), (5, ii ((inC w : Nat) : Int)), (6, zz (decide (vk v = 6 ∧ vk w = 6)))]) (S' := [zz (decide (vk v = 6 ∧ vk w = 6))]) dm_X9_inner_307 rfl rfl rfl rfl ?_
                refine y_zeq (c := decide (vk v = 6 ∧ vk w = 6)) (t := 324) (pc' := 312) dm_X9_inner_309 rfl rfl (fun hb6 => ?_) (fun hb6 => ?_)
                · replace hb6 := dF hb6
                  refine me1 (pc' := 326) (L' := [(7, .ref h.length), (0, .ref 26), (1, .ref p), (2, .ref q), (3, ii ((inA v : Nat) : Int)), (4, ii ((inL v : Nat) : Int)), (5, ii ((inC w : Nat) : Int)), (6, zz (decide (vk v = 6 ∧ vk w = 6)))]) (S' := [.ref h.length]) dm_X9_inner_324 rfl rfl rfl rfl ?_
                  refine x_cv (pc' := 329) (rest := []) dm_X9_inner_326 rfl (g_invs (As := [.ref h.length]) (S := []) rfl rfl rfl) rfl rfl rfl (c_numberRow (hx1 := hx1) (q := h.length + 1) (by omega) (by simp; omega) (by simp) (show rowAt (fun _ => True) _ _ _ _ from Or.inr ⟨by omega, (hl_newa (by simp)), by omega, trivial⟩) (by omega)) ?_
                  rintro _ _ ⟨rfl, rfl⟩
                  refine y_ret (r := some (.ref (h.length + 1))) dm_X9_inner_329 rfl rfl rfl ?_
                  have hf0 : ft = 0 := by omega
                  have hin : r * inC w = inL v * inC w := by rw [show r = inL v by omega]
                  have hG2 : ∀ j, j < inL v * inC w → G j = sopV (inO v w j) := fun j hj => hG hf0 j (by omega)
                  have he0 : errs (inB v w) (inL v * inC w) = 0 := by rw [← hin]; omega
                  refine ⟨_, rfl, (h.set 26 (cO 9 [.ref 27, .ref 29, .ref 30, .ref 31, ii ft])).set 30 (cJ 144 G), scrS_tr (scrS_set (e' := cO 9 [.ref 27, .ref 29, .ref 30, .ref 31, ii ft]) (by unfold scr; decide) h26 rfl) (scrS_set (e' := cJ 144 G) (by unfold scr; decide) (hl_ne (by decide) h30) rfl), actH_30 (actH_26 hH _) _, ?_⟩
                  have hvf := vform_le (m := inL v * inC w) (f := fun i => sopV (inO v w i))
                  rw [show d_inner v w = .inr (vrow (vform (inL v * inC w) (fun i => sopV (inO v w i))) (inL v * inC w) (fun i => sopV (inO v w i))) by unfold d_inner; rw [if_neg (by omega), if_neg (by omega), if_neg (by omega), if_neg (by omega), if_neg (by omega), if_neg (by assumption)]]
                  have hn12 : inL v * inC w ≤ 120 := by first | (have h1 : inL v = 1 := if_neg (by omega); rw [h1]; unfold inC; split <;> omega) | (have h2 : inC w = 1 := if_neg (by omega); rw [h2]; unfold inL; split <;> omega)
                  exact vres_rowL (by simp) hl (by omega) (by omega) hn12 (by rw [vform_congr (g := fun i => sopV (inO v w i)) (fun j hj => by rw [cpy_at hj]; exact hG2 j hj)]) (fun j hj => by rw [cpy_at hj]; exact hG2 j hj) (by omega) (by omega)
                · replace hb6 := dT hb6
                  refine me1 (pc' := 314) (L' := [(7, .ref h.length), (0, .ref 26), (1, .ref p), (2, .ref q), (3, ii ((inA v : Nat) : Int)), (4, ii ((inL v : Nat) : Int)), (5, ii ((inC w : Nat) : Int)), (6, zz (decide (vk v = 6 ∧ vk w = 6)))]) (S' := [.ref h.length]) dm_X9_inner_312 rfl rfl rfl rfl ?_
                  refine me1 (pc' := 316) (L' := [(7, .ref h.length), (0, .ref 26), (1, .ref p), (2, .ref q), (3, ii ((inA v : Nat) : Int)), (4, ii ((inL v : Nat) : Int)), (5, ii ((inC w : Nat) : Int)), (6, zz (decide (vk v = 6 ∧ vk w = 6)))]) (S' := [ii ((inL v : Nat) : Int), .ref h.length]) dm_X9_inner_314 rfl rfl rfl rfl ?_
                  refine me1 (pc' := 318) (L' := [(7, .ref h.length), (0, .ref 26), (1, .ref p), (2, .ref q), (3, ii ((inA v : Nat) : Int)), (4, ii ((inL v : Nat) : Int)), (5, ii ((inC w : Nat) : Int)), (6, zz (decide (vk v = 6 ∧ vk w = 6)))]) (S' := [ii ((inC w : Nat) : Int), ii ((inL v : Nat) : Int), .ref h.length]) dm_X9_inner_316 rfl rfl rfl rfl ?_
                  refine x_cv (pc' := 321) (rest := []) dm_X9_inner_318 rfl (g_invs (As := [.ref h.length, ii ((inL v : Nat) : Int), ii ((inC w : Nat) : Int)]) (S := []) rfl rfl rfl) rfl rfl rfl (c_table (q := h.length + 1) (by omega) (by simp; omega) (by simp) (by omega) (by omega)) ?_
                  rintro _ _ ⟨rfl, rfl⟩
                  refine me2 (pc' := 329) (S' := [.ref (h.length + 1)]) dm_X9_inner_321 rfl rfl rfl ?_
                  refine y_ret (r := some (.ref (h.length + 1))) dm_X9_inner_329 rfl rfl rfl ?_
                  have hf0 : ft = 0 := by omega
                  have hin : r * inC w = inL v * inC w := by rw [show r = inL v by omega]
                  have hG2 : ∀ j, j < inL v * inC w → G j = sopV (inO v w j) := fun j hj => hG hf0 j (by omega)
                  have he0 : errs (inB v w) (inL v * inC w) = 0 := by rw [← hin]; omega
                  refine ⟨_, rfl, (h.set 26 (cO 9 [.ref 27, .ref 29, .ref 30, .ref 31, ii ft])).set 30 (cJ 144 G), scrS_tr (scrS_set (e' := cO 9 [.ref 27, .ref 29, .ref 30, .ref 31, ii ft]) (by unfold scr; decide) h26 rfl) (scrS_set (e' := cJ 144 G) (by unfold scr; decide) (hl_ne (by decide) h30) rfl), actH_30 (actH_26 hH _) _, ?_⟩
                  rw [show d_inner v w = .inr (vtab (inL v) (inC w) (fun i => sopV (inO v w i))) by unfold d_inner; rw [if_neg (by omega), if_neg (by omega), if_neg (by omega), if_neg (by omega), if_neg (by omega), if_pos (by assumption)]]
                  have hsm : vk v = 6 ∧ vk w = 6 := by assumption
                  have hL6 : inL v = vm v := if_pos hsm.1
                  have hC6 : inC w = vc w := if_pos hsm.2
                  have hv6 := hv.1.2.2.2.1 hsm.1
                  have hw6 := hw.1.2.2.2.1 hsm.2
                  exact vres_flatL (w := vtab (inL v) (inC w) (fun i => sopV (inO v w i))) (by simp) hl (vw1_tab (by omega) (by omega) (by omega) (by omega) (fun k hk => inB_fit (errs_all he0 k hk) hsm.1 hsm.2)) (by show 2 ≤ 6; omega) (by show 6 ≤ 6; omega) (by rw [vq_tab]) (fun j hj => by rw [cpy_at hj]; exact hG2 j hj) (by omega) (by omega)
              · replace hb5 := dT hb5
                refine me1 (pc' := 284) (L' := [(0, .ref 26), (1, .ref p), (2, .ref q), (3, ii ((inA v : Nat) : Int)), (4, ii ((inL v : Nat) : Int)), (5, ii ((inC w : Nat) : Int)), (6, zz (decide (vk v = 6 ∧ vk w = 6))), (7, ii ((r : Nat) : Int))]) (S' := [.ref 26]) dm_X9_inner_283 rfl rfl rfl rfl ?_
                refine me3 (pc' := 287) (S' := [.ref 30]) dm_X9_inner_284 (g_get (v := .ref 30) (hl_ne (by decide) (hl_set (hl_lt h26))) rfl rfl (by decide)) rfl rfl rfl ?_
                refine me0 (pc' := 288) (S' := [ii 0, .ref 30]) dm_X9_inner_287 rfl rfl rfl rfl ?_
                refine me3 (pc' := 289) (S' := [.long (G 0)]) dm_X9_inner_288 (yh_lald (w := G 0) (hl_set (hl_lt (hl_ne (by decide) h30))) (by omega) (by omega) (by omega) (by decide) rfl) rfl rfl rfl ?_
                refine x_cv (pc' := 292) (rest := []) dm_X9_inner_289 rfl (g_invs (As := [.long (G 0)]) (S := []) rfl rfl rfl) rfl rfl rfl (c_number (q := h.length) (by omega) (by simp; omega) (by simp) ) ?_
                rintro _ _ ⟨rfl, rfl⟩
                refine y_ret (r := some (.ref h.length)) dm_X9_inner_292 rfl rfl rfl ?_
                have hf0 : ft = 0 := by omega
                have hin : r * inC w = inL v * inC w := by rw [show r = inL v by omega]
                have hG2 : ∀ j, j < inL v * inC w → G j = sopV (inO v w j) := fun j hj => hG hf0 j (by omega)
                have he0 : errs (inB v w) (inL v * inC w) = 0 := by rw [← hin]; omega
                refine ⟨_, rfl, (h.set 26 (cO 9 [.ref 27, .ref 29, .ref 30, .ref 31, ii ft])).set 30 (cJ 144 G), scrS_tr (scrS_set (e' := cO 9 [.ref 27, .ref 29, .ref 30, .ref 31, ii ft]) (by unfold scr; decide) h26 rfl) (scrS_set (e' := cJ 144 G) (by unfold scr; decide) (hl_ne (by decide) h30) rfl), actH_30 (actH_26 hH _) _, ?_⟩
                rw [show d_inner v w = .inr (v1 0 (sopV (inO v w 0))) by unfold d_inner; rw [if_neg (by omega), if_neg (by omega), if_neg (by omega), if_neg (by omega), if_pos (by omega)]]
                rw [hG2 0 (by have h1 : inL v = 1 := if_neg (by omega); have h2 : inC w = 1 := if_neg (by omega); rw [h1, h2]; omega)]
                have hfz := vres_one (A := A) (h := (h.set 26 (cO 9 [.ref 27, .ref 29, .ref 30, .ref 31, ii ft])).set 30 (cJ 144 G)) (e := e) (k := 0) (x := sopV (inO v w 0)) (a := 2) (b := inL v * inC w + 9) (by simp; omega) (by omega) (by omega) (by omega)
                rw [List.length_set, List.length_set] at hfz
                exact hfz
          · refine me1 (pc' := 262) (L' := [(0, .ref 26), (1, .ref p), (2, .ref q), (3, ii ((inA v : Nat) : Int)), (4, ii ((inL v : Nat) : Int)), (5, ii ((inC w : Nat) : Int)), (6, zz (decide (vk v = 6 ∧ vk w = 6))), (7, ii ((r : Nat) : Int))]) (S' := [.ref 26]) dm_X9_inner_261 rfl rfl rfl rfl ?_
            refine me3 (pc' := 265) (S' := [ii ft]) dm_X9_inner_262 (g_get (v := ii ft) (hl_ne (by decide) (hl_set (hl_lt h26))) rfl rfl (by decide)) rfl rfl rfl ?_
            refine x_cv (pc' := 268) (rest := []) dm_X9_inner_265 rfl (g_invs (As := [ii ft]) (S := []) rfl rfl rfl) rfl rfl rfl (c_fault (q := h.length) (by omega) (by simp; omega) (by simp) (by omega)) ?_
            rintro _ _ ⟨rfl, rfl⟩
            refine y_ret (r := some (.ref h.length)) dm_X9_inner_268 rfl rfl rfl ?_
            have hf6 : ft = 6 := by omega
            refine ⟨_, rfl, (h.set 26 (cO 9 [.ref 27, .ref 29, .ref 30, .ref 31, ii ft])).set 30 (cJ 144 G), scrS_tr (scrS_set (e' := cO 9 [.ref 27, .ref 29, .ref 30, .ref 31, ii ft]) (by unfold scr; decide) h26 rfl) (scrS_set (e' := cJ 144 G) (by unfold scr; decide) (hl_ne (by decide) h30) rfl), actH_30 (actH_26 hH _) _, ?_⟩
            rw [show d_inner v w = .inl 6 by unfold d_inner; rw [if_neg (by omega), if_neg (by omega), if_neg (by omega), if_pos (by have y := errs_mono (g := inB v w) (k := r * inC w) (by omega) (inL v * inC w - r * inC w); rw [show r * inC w + (inL v * inC w - r * inC w) = inL v * inC w by omega] at y; omega)]]
            have hfz := ares_f (A := A) (h := (h.set 26 (cO 9 [.ref 27, .ref 29, .ref 30, .ref 31, ii ft])).set 30 (cJ 144 G)) (e := e + 1) (a := 2) (b := inL v * inC w + 9) 6 (by simp; omega) (by omega) (by omega)
            rw [List.length_set, List.length_set] at hfz
            simp only [hf6] at hfz ⊢
            exact hfz
        · refine me1 (pc' := 169) (L' := [(0, .ref 26), (1, .ref p), (2, .ref q), (3, ii ((inA v : Nat) : Int)), (4, ii ((inL v : Nat) : Int)), (5, ii ((inC w : Nat) : Int)), (6, zz (decide (vk v = 6 ∧ vk w = 6))), (7, ii ((r : Nat) : Int))]) (S' := [.ref 26]) dm_X9_inner_168 rfl rfl rfl rfl ?_
          refine me3 (pc' := 172) (S' := [ii ft]) dm_X9_inner_169 (g_get (v := ii ft) (hl_ne (by decide) (hl_set (hl_lt h26))) rfl rfl (by decide)) rfl rfl rfl ?_
          refine y_1ne (a := ft) (t := 254) (pc' := 175) dm_X9_inner_172 rfl rfl (by omega) (fun hb7 => ?_) (fun hb7 => ?_)
          · refine me1 (pc' := 255) (L' := [(0, .ref 26), (1, .ref p), (2, .ref q), (3, ii ((inA v : Nat) : Int)), (4, ii ((inL v : Nat) : Int)), (5, ii ((inC w : Nat) : Int)), (6, zz (decide (vk v = 6 ∧ vk w = 6))), (7, ii ((r : Nat) : Int))]) (S' := [.ref 26]) dm_X9_inner_254 rfl rfl rfl rfl ?_
            refine me3 (pc' := 258) (S' := [ii ft]) dm_X9_inner_255 (g_get (v := ii ft) (hl_ne (by decide) (hl_set (hl_lt h26))) rfl rfl (by decide)) rfl rfl rfl ?_
            refine y_1eq (a := ft) (t := 269) (pc' := 261) dm_X9_inner_258 rfl rfl (by omega) (fun hb8 => ?_) (fun hb8 => ?_)
            · refine me1 (pc' := 270) (L' := [(0, .ref 26), (1, .ref p), (2, .ref q), (3, ii ((inA v : Nat) : Int)), (4, ii ((inL v : Nat) : Int)), (5, ii ((inC w : Nat) : Int)), (6, zz (decide (vk v = 6 ∧ vk w = 6))), (7, ii ((r : Nat) : Int))]) (S' := [.ref p]) dm_X9_inner_269 rfl rfl rfl rfl ?_
              refine x_cp (pc' := 273) (v := zz (decide (2 ≤ vk v ∧ vk v ≤ 5))) (rest := []) dm_X9_inner_270 rfl (g_inv (As := []) (S := []) (hl_ne (by omega) (hl_ne (by omega) hp)) rfl rfl rfl (by omega)) rfl rfl rfl (c_isRow (by omega) (cv_set (nA hA (Or.inl (by decide))) (cv_set (nA hA (Or.inl (by decide))) hv))) ?_
              refine y_zeq (c := decide (2 ≤ vk v ∧ vk v ≤ 5)) (t := 293) (pc' := 276) dm_X9_inner_273 rfl rfl (fun hb9 => ?_) (fun hb9 => ?_)
              · replace hb9 := dF hb9
                refine me1 (pc' := 294) (L' := [(0, .ref 26), (1, .ref p), (2, .ref q), (3, ii ((inA v : Nat) : Int)), (4, ii ((inL v : Nat) : Int)), (5, ii ((inC w : Nat) : Int)), (6, zz (decide (vk v = 6 ∧ vk w = 6))), (7, ii ((r : Nat) : Int))]) (S' := [.ref 26]) dm_X9_inner_293 rfl rfl rfl rfl ?_
                refine me3 (pc' := 297) (S' := [.ref 30]) dm_X9_inner_294 (g_get (v := .ref 30) (hl_ne (by decide) (hl_set (hl_lt h26))) rfl rfl (by decide)) rfl rfl rfl ?_
                refine me1 (pc' := 299) (L' := [(0, .ref 26), (1, .ref p), (2, .ref q), (3, ii ((inA v : Nat) : Int)), (4, ii ((inL v : Nat) : Int)), (5, ii ((inC w : Nat) : Int)), (6, zz (decide (vk v = 6 ∧ vk w = 6))), (7, ii ((r : Nat) : Int))]) (S' := [ii ((inL v : Nat) : Int), .ref 30]) dm_X9_inner_297 rfl rfl rfl rfl ?_
                refine me1 (pc' := 301) (L' := [(0, .ref 26), (1, .ref p), (2, .ref q), (3, ii ((inA v : Nat) : Int)), (4, ii ((inL v : Nat) : Int)), (5, ii ((inC w : Nat) : Int)), (6, zz (decide (vk v = 6 ∧ vk w = 6))), (7, ii ((r : Nat) : Int))]) (S' := [ii ((inC w : Nat) : Int), ii ((inL v : Nat) : Int), .ref 30]) dm_X9_inner_299 rfl rfl rfl rfl ?_
                refine y_imul (a := ((inL v : Nat) : Int)) (b := ((inC w : Nat) : Int)) dm_X9_inner_301 (pc' := 302) rfl ?_
                refine pg_st0 (S' := [ii ((inL v * inC w : Nat) : Int), .ref 30]) (congrArg (fun z => ii z :: [.ref 30]) (by push_cast; rfl)) ?_
                refine x_cv (pc' := 305) (rest := []) dm_X9_inner_302 rfl (g_invs (As := [.ref 30, ii ((inL v * inC w : Nat) : Int)]) (S := []) rfl rfl rfl) rfl rfl rfl (j_copyOfA hcl (n := inL v * inC w) (q := h.length) (by omega) (by simp; omega) (by simp) (hl_set (hl_lt (hl_ne (by decide) h30))) (by decide) (by omega) (by omega)) ?_
                rintro _ _ ⟨rfl, rfl⟩
                refine me1 (pc' := 307) (L' := [(7, .ref h.length), (0, .ref 26), (1, .ref p), (2, .ref q), (3, ii ((inA v : Nat) : Int)), (4, ii ((inL v : Nat) : Int)), (5, ii ((inC w : Nat) : Int)), (6, zz (decide (vk v = 6 ∧ vk w = 6)))]) (S' := []) dm_X9_inner_305 rfl rfl rfl rfl ?_
                refine me1 (pc' := 309) (L' := [(7, .ref h.length), (0, .ref 26), (1, .ref p), (2, .ref q), (3, ii ((inA v : Nat) : Int)), (4, ii ((inL v : Nat) : Int)), (5, ii ((inC w : Nat) : Int)), (6, zz (decide (vk v = 6 ∧ vk w = 6)))]) (S' := [zz (decide (vk v = 6 ∧ vk w = 6))]) dm_X9_inner_307 rfl rfl rfl rfl ?_
                refine y_zeq (c := decide (vk v = 6 ∧ vk w = 6)) (t := 324) (pc' := 312) dm_X9_inner_309 rfl rfl (fun hb10 => ?_) (fun hb10 => ?_)
                · replace hb10 := dF hb10
                  refine me1 (pc' := 326) (L' := [(7, .ref h.length), (0, .ref 26), (1, .ref p), (2, .ref q), (3, ii ((inA v : Nat) : Int)), (4, ii ((inL v : Nat) : Int)), (5, ii ((inC w : Nat) : Int)), (6, zz (decide (vk v = 6 ∧ vk w = 6)))]) (S' := [.ref h.length]) dm_X9_inner_324 rfl rfl rfl rfl ?_
                  refine x_cv (pc' := 329) (rest := []) dm_X9_inner_326 rfl (g_invs (As := [.ref h.length]) (S := []) rfl rfl rfl) rfl rfl rfl (c_numberRow (hx1 := hx1) (q := h.length + 1) (by omega) (by simp; omega) (by simp) (show rowAt (fun _ => True) _ _ _ _ from Or.inr ⟨by omega, (hl_newa (by simp)), by omega, trivial⟩) (by omega)) ?_
                  rintro _ _ ⟨rfl, rfl⟩
                  refine y_ret (r := some (.ref (h.length + 1))) dm_X9_inner_329 rfl rfl rfl ?_
                  have hf0 : ft = 0 := by omega
                  have hin : r * inC w = inL v * inC w := by rw [show r = inL v by omega]
                  have hG2 : ∀ j, j < inL v * inC w → G j = sopV (inO v w j) := fun j hj => hG hf0 j (by omega)
                  have he0 : errs (inB v w) (inL v * inC w) = 0 := by rw [← hin]; omega
                  refine ⟨_, rfl, (h.set 26 (cO 9 [.ref 27, .ref 29, .ref 30, .ref 31, ii ft])).set 30 (cJ 144 G), scrS_tr (scrS_set (e' := cO 9 [.ref 27, .ref 29, .ref 30, .ref 31, ii ft]) (by unfold scr; decide) h26 rfl) (scrS_set (e' := cJ 144 G) (by unfold scr; decide) (hl_ne (by decide) h30) rfl), actH_30 (actH_26 hH _) _, ?_⟩
                  have hvf := vform_le (m := inL v * inC w) (f := fun i => sopV (inO v w i))
                  rw [show d_inner v w = .inr (vrow (vform (inL v * inC w) (fun i => sopV (inO v w i))) (inL v * inC w) (fun i => sopV (inO v w i))) by unfold d_inner; rw [if_neg (by omega), if_neg (by omega), if_neg (by omega), if_neg (by omega), if_neg (by omega), if_neg (by assumption)]]
                  have hn12 : inL v * inC w ≤ 120 := by first | (have h1 : inL v = 1 := if_neg (by omega); rw [h1]; unfold inC; split <;> omega) | (have h2 : inC w = 1 := if_neg (by omega); rw [h2]; unfold inL; split <;> omega)
                  exact vres_rowL (by simp) hl (by omega) (by omega) hn12 (by rw [vform_congr (g := fun i => sopV (inO v w i)) (fun j hj => by rw [cpy_at hj]; exact hG2 j hj)]) (fun j hj => by rw [cpy_at hj]; exact hG2 j hj) (by omega) (by omega)
                · replace hb10 := dT hb10
                  refine me1 (pc' := 314) (L' := [(7, .ref h.length), (0, .ref 26), (1, .ref p), (2, .ref q), (3, ii ((inA v : Nat) : Int)), (4, ii ((inL v : Nat) : Int)), (5, ii ((inC w : Nat) : Int)), (6, zz (decide (vk v = 6 ∧ vk w = 6)))]) (S' := [.ref h.length]) dm_X9_inner_312 rfl rfl rfl rfl ?_
                  refine me1 (pc' := 316) (L' := [(7, .ref h.length), (0, .ref 26), (1, .ref p), (2, .ref q), (3, ii ((inA v : Nat) : Int)), (4, ii ((inL v : Nat) : Int)), (5, ii ((inC w : Nat) : Int)), (6, zz (decide (vk v = 6 ∧ vk w = 6)))]) (S' := [ii ((inL v : Nat) : Int), .ref h.length]) dm_X9_inner_314 rfl rfl rfl rfl ?_
                  refine me1 (pc' := 318) (L' := [(7, .ref h.length), (0, .ref 26), (1, .ref p), (2, .ref q), (3, ii ((inA v : Nat) : Int)), (4, ii ((inL v : Nat) : Int)), (5, ii ((inC w : Nat) : Int)), (6, zz (decide (vk v = 6 ∧ vk w = 6)))]) (S' := [ii ((inC w : Nat) : Int), ii ((inL v : Nat) : Int), .ref h.length]) dm_X9_inner_316 rfl rfl rfl rfl ?_
                  refine x_cv (pc' := 321) (rest := []) dm_X9_inner_318 rfl (g_invs (As := [.ref h.length, ii ((inL v : Nat) : Int), ii ((inC w : Nat) : Int)]) (S := []) rfl rfl rfl) rfl rfl rfl (c_table (q := h.length + 1) (by omega) (by simp; omega) (by simp) (by omega) (by omega)) ?_
                  rintro _ _ ⟨rfl, rfl⟩
                  refine me2 (pc' := 329) (S' := [.ref (h.length + 1)]) dm_X9_inner_321 rfl rfl rfl ?_
                  refine y_ret (r := some (.ref (h.length + 1))) dm_X9_inner_329 rfl rfl rfl ?_
                  have hf0 : ft = 0 := by omega
                  have hin : r * inC w = inL v * inC w := by rw [show r = inL v by omega]
                  have hG2 : ∀ j, j < inL v * inC w → G j = sopV (inO v w j) := fun j hj => hG hf0 j (by omega)
                  have he0 : errs (inB v w) (inL v * inC w) = 0 := by rw [← hin]; omega
                  refine ⟨_, rfl, (h.set 26 (cO 9 [.ref 27, .ref 29, .ref 30, .ref 31, ii ft])).set 30 (cJ 144 G), scrS_tr (scrS_set (e' := cO 9 [.ref 27, .ref 29, .ref 30, .ref 31, ii ft]) (by unfold scr; decide) h26 rfl) (scrS_set (e' := cJ 144 G) (by unfold scr; decide) (hl_ne (by decide) h30) rfl), actH_30 (actH_26 hH _) _, ?_⟩
                  rw [show d_inner v w = .inr (vtab (inL v) (inC w) (fun i => sopV (inO v w i))) by unfold d_inner; rw [if_neg (by omega), if_neg (by omega), if_neg (by omega), if_neg (by omega), if_neg (by omega), if_pos (by assumption)]]
                  have hsm : vk v = 6 ∧ vk w = 6 := by assumption
                  have hL6 : inL v = vm v := if_pos hsm.1
                  have hC6 : inC w = vc w := if_pos hsm.2
                  have hv6 := hv.1.2.2.2.1 hsm.1
                  have hw6 := hw.1.2.2.2.1 hsm.2
                  exact vres_flatL (w := vtab (inL v) (inC w) (fun i => sopV (inO v w i))) (by simp) hl (vw1_tab (by omega) (by omega) (by omega) (by omega) (fun k hk => inB_fit (errs_all he0 k hk) hsm.1 hsm.2)) (by show 2 ≤ 6; omega) (by show 6 ≤ 6; omega) (by rw [vq_tab]) (fun j hj => by rw [cpy_at hj]; exact hG2 j hj) (by omega) (by omega)
              · replace hb9 := dT hb9
                refine me1 (pc' := 277) (L' := [(0, .ref 26), (1, .ref p), (2, .ref q), (3, ii ((inA v : Nat) : Int)), (4, ii ((inL v : Nat) : Int)), (5, ii ((inC w : Nat) : Int)), (6, zz (decide (vk v = 6 ∧ vk w = 6))), (7, ii ((r : Nat) : Int))]) (S' := [.ref q]) dm_X9_inner_276 rfl rfl rfl rfl ?_
                refine x_cp (pc' := 280) (v := zz (decide (2 ≤ vk w ∧ vk w ≤ 5))) (rest := []) dm_X9_inner_277 rfl (g_inv (As := []) (S := []) (hl_ne (by omega) (hl_ne (by omega) hq)) rfl rfl rfl (by omega)) rfl rfl rfl (c_isRow (by omega) (cv_set (nA hA (Or.inl (by decide))) (cv_set (nA hA (Or.inl (by decide))) hw))) ?_
                refine y_zeq (c := decide (2 ≤ vk w ∧ vk w ≤ 5)) (t := 293) (pc' := 283) dm_X9_inner_280 rfl rfl (fun hb11 => ?_) (fun hb11 => ?_)
                · replace hb11 := dF hb11
                  refine me1 (pc' := 294) (L' := [(0, .ref 26), (1, .ref p), (2, .ref q), (3, ii ((inA v : Nat) : Int)), (4, ii ((inL v : Nat) : Int)), (5, ii ((inC w : Nat) : Int)), (6, zz (decide (vk v = 6 ∧ vk w = 6))), (7, ii ((r : Nat) : Int))]) (S' := [.ref 26]) dm_X9_inner_293 rfl rfl rfl rfl ?_
                  refine me3 (pc' := 297) (S' := [.ref 30]) dm_X9_inner_294 (g_get (v := .ref 30) (hl_ne (by decide) (hl_set (hl_lt h26))) rfl rfl (by decide)) rfl rfl rfl ?_
                  refine me1 (pc' := 299) (L' := [(0, .ref 26), (1, .ref p), (2, .ref q), (3, ii ((inA v : Nat) : Int)), (4, ii ((inL v : Nat) : Int)), (5, ii ((inC w : Nat) : Int)), (6, zz (decide (vk v = 6 ∧ vk w = 6))), (7, ii ((r : Nat) : Int))]) (S' := [ii ((inL v : Nat) : Int), .ref 30]) dm_X9_inner_297 rfl rfl rfl rfl ?_
                  refine me1 (pc' := 301) (L' := [(0, .ref 26), (1, .ref p), (2, .ref q), (3, ii ((inA v : Nat) : Int)), (4, ii ((inL v : Nat) : Int)), (5, ii ((inC w : Nat) : Int)), (6, zz (decide (vk v = 6 ∧ vk w = 6))), (7, ii ((r : Nat) : Int))]) (S' := [ii ((inC w : Nat) : Int), ii ((inL v : Nat) : Int), .ref 30]) dm_X9_inner_299 rfl rfl rfl rfl ?_
                  refine y_imul (a := ((inL v : Nat) : Int)) (b := ((inC w : Nat) : Int)) dm_X9_inner_301 (pc' := 302) rfl ?_
                  refine pg_st0 (S' := [ii ((inL v * inC w : Nat) : Int), .ref 30]) (congrArg (fun z => ii z :: [.ref 30]) (by push_cast; rfl)) ?_
                  refine x_cv (pc' := 305) (rest := []) dm_X9_inner_302 rfl (g_invs (As := [.ref 30, ii ((inL v * inC w : Nat) : Int)]) (S := []) rfl rfl rfl) rfl rfl rfl (j_copyOfA hcl (n := inL v * inC w) (q := h.length) (by omega) (by simp; omega) (by simp) (hl_set (hl_lt (hl_ne (by decide) h30))) (by decide) (by omega) (by omega)) ?_
                  rintro _ _ ⟨rfl, rfl⟩
                  refine me1 (pc' := 307) (L' := [(7, .ref h.length), (0, .ref 26), (1, .ref p), (2, .ref q), (3, ii ((inA v : Nat) : Int)), (4, ii ((inL v : Nat) : Int)), (5, ii ((inC w : Nat) : Int)), (6, zz (decide (vk v = 6 ∧ vk w = 6)))]) (S' := []) dm_X9_inner_305 rfl rfl rfl rfl ?_
                  refine me1 (pc' := 309) (L' := [(7, .ref h.length), (0, .ref 26), (1, .ref p), (2, .ref q), (3, ii ((inA v : Nat) : Int)), (4, ii ((inL v : Nat) : Int)), (5, ii ((inC w : Nat) : Int)), (6, zz (decide (vk v = 6 ∧ vk w = 6)))]) (S' := [zz (decide (vk v = 6 ∧ vk w = 6))]) dm_X9_inner_307 rfl rfl rfl rfl ?_
                  refine y_zeq (c := decide (vk v = 6 ∧ vk w = 6)) (t := 324) (pc' := 312) dm_X9_inner_309 rfl rfl (fun hb12 => ?_) (fun hb12 => ?_)
                  · replace hb12 := dF hb12
                    refine me1 (pc' := 326) (L' := [(7, .ref h.length), (0, .ref 26), (1, .ref p), (2, .ref q), (3, ii ((inA v : Nat) : Int)), (4, ii ((inL v : Nat) : Int)), (5, ii ((inC w : Nat) : Int)), (6, zz (decide (vk v = 6 ∧ vk w = 6)))]) (S' := [.ref h.length]) dm_X9_inner_324 rfl rfl rfl rfl ?_
                    refine x_cv (pc' := 329) (rest := []) dm_X9_inner_326 rfl (g_invs (As := [.ref h.length]) (S := []) rfl rfl rfl) rfl rfl rfl (c_numberRow (hx1 := hx1) (q := h.length + 1) (by omega) (by simp; omega) (by simp) (show rowAt (fun _ => True) _ _ _ _ from Or.inr ⟨by omega, (hl_newa (by simp)), by omega, trivial⟩) (by omega)) ?_
                    rintro _ _ ⟨rfl, rfl⟩
                    refine y_ret (r := some (.ref (h.length + 1))) dm_X9_inner_329 rfl rfl rfl ?_
                    have hf0 : ft = 0 := by omega
                    have hin : r * inC w = inL v * inC w := by rw [show r = inL v by omega]
                    have hG2 : ∀ j, j < inL v * inC w → G j = sopV (inO v w j) := fun j hj => hG hf0 j (by omega)
                    have he0 : errs (inB v w) (inL v * inC w) = 0 := by rw [← hin]; omega
                    refine ⟨_, rfl, (h.set 26 (cO 9 [.ref 27, .ref 29, .ref 30, .ref 31, ii ft])).set 30 (cJ 144 G), scrS_tr (scrS_set (e' := cO 9 [.ref 27, .ref 29, .ref 30, .ref 31, ii ft]) (by unfold scr; decide) h26 rfl) (scrS_set (e' := cJ 144 G) (by unfold scr; decide) (hl_ne (by decide) h30) rfl), actH_30 (actH_26 hH _) _, ?_⟩
                    have hvf := vform_le (m := inL v * inC w) (f := fun i => sopV (inO v w i))
                    rw [show d_inner v w = .inr (vrow (vform (inL v * inC w) (fun i => sopV (inO v w i))) (inL v * inC w) (fun i => sopV (inO v w i))) by unfold d_inner; rw [if_neg (by omega), if_neg (by omega), if_neg (by omega), if_neg (by omega), if_neg (by omega), if_neg (by assumption)]]
                    have hn12 : inL v * inC w ≤ 120 := by first | (have h1 : inL v = 1 := if_neg (by omega); rw [h1]; unfold inC; split <;> omega) | (have h2 : inC w = 1 := if_neg (by omega); rw [h2]; unfold inL; split <;> omega)
                    exact vres_rowL (by simp) hl (by omega) (by omega) hn12 (by rw [vform_congr (g := fun i => sopV (inO v w i)) (fun j hj => by rw [cpy_at hj]; exact hG2 j hj)]) (fun j hj => by rw [cpy_at hj]; exact hG2 j hj) (by omega) (by omega)
                  · replace hb12 := dT hb12
                    refine me1 (pc' := 314) (L' := [(7, .ref h.length), (0, .ref 26), (1, .ref p), (2, .ref q), (3, ii ((inA v : Nat) : Int)), (4, ii ((inL v : Nat) : Int)), (5, ii ((inC w : Nat) : Int)), (6, zz (decide (vk v = 6 ∧ vk w = 6)))]) (S' := [.ref h.length]) dm_X9_inner_312 rfl rfl rfl rfl ?_
                    refine me1 (pc' := 316) (L' := [(7, .ref h.length), (0, .ref 26), (1, .ref p), (2, .ref q), (3, ii ((inA v : Nat) : Int)), (4, ii ((inL v : Nat) : Int)), (5, ii ((inC w : Nat) : Int)), (6, zz (decide (vk v = 6 ∧ vk w = 6)))]) (S' := [ii ((inL v : Nat) : Int), .ref h.length]) dm_X9_inner_314 rfl rfl rfl rfl ?_
                    refine me1 (pc' := 318) (L' := [(7, .ref h.length), (0, .ref 26), (1, .ref p), (2, .ref q), (3, ii ((inA v : Nat) : Int)), (4, ii ((inL v : Nat) : Int)), (5, ii ((inC w : Nat) : Int)), (6, zz (decide (vk v = 6 ∧ vk w = 6)))]) (S' := [ii ((inC w : Nat) : Int), ii ((inL v : Nat) : Int), .ref h.length]) dm_X9_inner_316 rfl rfl rfl rfl ?_
                    refine x_cv (pc' := 321) (rest := []) dm_X9_inner_318 rfl (g_invs (As := [.ref h.length, ii ((inL v : Nat) : Int), ii ((inC w : Nat) : Int)]) (S := []) rfl rfl rfl) rfl rfl rfl (c_table (q := h.length + 1) (by omega) (by simp; omega) (by simp) (by omega) (by omega)) ?_
                    rintro _ _ ⟨rfl, rfl⟩
                    refine me2 (pc' := 329) (S' := [.ref (h.length + 1)]) dm_X9_inner_321 rfl rfl rfl ?_
                    refine y_ret (r := some (.ref (h.length + 1))) dm_X9_inner_329 rfl rfl rfl ?_
                    have hf0 : ft = 0 := by omega
                    have hin : r * inC w = inL v * inC w := by rw [show r = inL v by omega]
                    have hG2 : ∀ j, j < inL v * inC w → G j = sopV (inO v w j) := fun j hj => hG hf0 j (by omega)
                    have he0 : errs (inB v w) (inL v * inC w) = 0 := by rw [← hin]; omega
                    refine ⟨_, rfl, (h.set 26 (cO 9 [.ref 27, .ref 29, .ref 30, .ref 31, ii ft])).set 30 (cJ 144 G), scrS_tr (scrS_set (e' := cO 9 [.ref 27, .ref 29, .ref 30, .ref 31, ii ft]) (by unfold scr; decide) h26 rfl) (scrS_set (e' := cJ 144 G) (by unfold scr; decide) (hl_ne (by decide) h30) rfl), actH_30 (actH_26 hH _) _, ?_⟩
                    rw [show d_inner v w = .inr (vtab (inL v) (inC w) (fun i => sopV (inO v w i))) by unfold d_inner; rw [if_neg (by omega), if_neg (by omega), if_neg (by omega), if_neg (by omega), if_neg (by omega), if_pos (by assumption)]]
                    have hsm : vk v = 6 ∧ vk w = 6 := by assumption
                    have hL6 : inL v = vm v := if_pos hsm.1
                    have hC6 : inC w = vc w := if_pos hsm.2
                    have hv6 := hv.1.2.2.2.1 hsm.1
                    have hw6 := hw.1.2.2.2.1 hsm.2
                    exact vres_flatL (w := vtab (inL v) (inC w) (fun i => sopV (inO v w i))) (by simp) hl (vw1_tab (by omega) (by omega) (by omega) (by omega) (fun k hk => inB_fit (errs_all he0 k hk) hsm.1 hsm.2)) (by show 2 ≤ 6; omega) (by show 6 ≤ 6; omega) (by rw [vq_tab]) (fun j hj => by rw [cpy_at hj]; exact hG2 j hj) (by omega) (by omega)
                · replace hb11 := dT hb11
                  refine me1 (pc' := 284) (L' := [(0, .ref 26), (1, .ref p), (2, .ref q), (3, ii ((inA v : Nat) : Int)), (4, ii ((inL v : Nat) : Int)), (5, ii ((inC w : Nat) : Int)), (6, zz (decide (vk v = 6 ∧ vk w = 6))), (7, ii ((r : Nat) : Int))]) (S' := [.ref 26]) dm_X9_inner_283 rfl rfl rfl rfl ?_
                  refine me3 (pc' := 287) (S' := [.ref 30]) dm_X9_inner_284 (g_get (v := .ref 30) (hl_ne (by decide) (hl_set (hl_lt h26))) rfl rfl (by decide)) rfl rfl rfl ?_
                  refine me0 (pc' := 288) (S' := [ii 0, .ref 30]) dm_X9_inner_287 rfl rfl rfl rfl ?_
                  refine me3 (pc' := 289) (S' := [.long (G 0)]) dm_X9_inner_288 (yh_lald (w := G 0) (hl_set (hl_lt (hl_ne (by decide) h30))) (by omega) (by omega) (by omega) (by decide) rfl) rfl rfl rfl ?_
                  refine x_cv (pc' := 292) (rest := []) dm_X9_inner_289 rfl (g_invs (As := [.long (G 0)]) (S := []) rfl rfl rfl) rfl rfl rfl (c_number (q := h.length) (by omega) (by simp; omega) (by simp) ) ?_
                  rintro _ _ ⟨rfl, rfl⟩
                  refine y_ret (r := some (.ref h.length)) dm_X9_inner_292 rfl rfl rfl ?_
                  have hf0 : ft = 0 := by omega
                  have hin : r * inC w = inL v * inC w := by rw [show r = inL v by omega]
                  have hG2 : ∀ j, j < inL v * inC w → G j = sopV (inO v w j) := fun j hj => hG hf0 j (by omega)
                  have he0 : errs (inB v w) (inL v * inC w) = 0 := by rw [← hin]; omega
                  refine ⟨_, rfl, (h.set 26 (cO 9 [.ref 27, .ref 29, .ref 30, .ref 31, ii ft])).set 30 (cJ 144 G), scrS_tr (scrS_set (e' := cO 9 [.ref 27, .ref 29, .ref 30, .ref 31, ii ft]) (by unfold scr; decide) h26 rfl) (scrS_set (e' := cJ 144 G) (by unfold scr; decide) (hl_ne (by decide) h30) rfl), actH_30 (actH_26 hH _) _, ?_⟩
                  rw [show d_inner v w = .inr (v1 0 (sopV (inO v w 0))) by unfold d_inner; rw [if_neg (by omega), if_neg (by omega), if_neg (by omega), if_neg (by omega), if_pos (by omega)]]
                  rw [hG2 0 (by have h1 : inL v = 1 := if_neg (by omega); have h2 : inC w = 1 := if_neg (by omega); rw [h1, h2]; omega)]
                  have hfz := vres_one (A := A) (h := (h.set 26 (cO 9 [.ref 27, .ref 29, .ref 30, .ref 31, ii ft])).set 30 (cJ 144 G)) (e := e) (k := 0) (x := sopV (inO v w 0)) (a := 2) (b := inL v * inC w + 9) (by simp; omega) (by omega) (by omega) (by omega)
                  rw [List.length_set, List.length_set] at hfz
                  exact hfz
            · refine me1 (pc' := 262) (L' := [(0, .ref 26), (1, .ref p), (2, .ref q), (3, ii ((inA v : Nat) : Int)), (4, ii ((inL v : Nat) : Int)), (5, ii ((inC w : Nat) : Int)), (6, zz (decide (vk v = 6 ∧ vk w = 6))), (7, ii ((r : Nat) : Int))]) (S' := [.ref 26]) dm_X9_inner_261 rfl rfl rfl rfl ?_
              refine me3 (pc' := 265) (S' := [ii ft]) dm_X9_inner_262 (g_get (v := ii ft) (hl_ne (by decide) (hl_set (hl_lt h26))) rfl rfl (by decide)) rfl rfl rfl ?_
              refine x_cv (pc' := 268) (rest := []) dm_X9_inner_265 rfl (g_invs (As := [ii ft]) (S := []) rfl rfl rfl) rfl rfl rfl (c_fault (q := h.length) (by omega) (by simp; omega) (by simp) (by omega)) ?_
              rintro _ _ ⟨rfl, rfl⟩
              refine y_ret (r := some (.ref h.length)) dm_X9_inner_268 rfl rfl rfl ?_
              have hf6 : ft = 6 := by omega
              refine ⟨_, rfl, (h.set 26 (cO 9 [.ref 27, .ref 29, .ref 30, .ref 31, ii ft])).set 30 (cJ 144 G), scrS_tr (scrS_set (e' := cO 9 [.ref 27, .ref 29, .ref 30, .ref 31, ii ft]) (by unfold scr; decide) h26 rfl) (scrS_set (e' := cJ 144 G) (by unfold scr; decide) (hl_ne (by decide) h30) rfl), actH_30 (actH_26 hH _) _, ?_⟩
              rw [show d_inner v w = .inl 6 by unfold d_inner; rw [if_neg (by omega), if_neg (by omega), if_neg (by omega), if_pos (by have y := errs_mono (g := inB v w) (k := r * inC w) (by omega) (inL v * inC w - r * inC w); rw [show r * inC w + (inL v * inC w - r * inC w) = inL v * inC w by omega] at y; omega)]]
              have hfz := ares_f (A := A) (h := (h.set 26 (cO 9 [.ref 27, .ref 29, .ref 30, .ref 31, ii ft])).set 30 (cJ 144 G)) (e := e + 1) (a := 2) (b := inL v * inC w + 9) 6 (by simp; omega) (by omega) (by omega)
              rw [List.length_set, List.length_set] at hfz
              simp only [hf6] at hfz ⊢
              exact hfz
          · refine me0 (pc' := 176) (S' := [ii 0]) dm_X9_inner_175 rfl rfl rfl rfl ?_
            refine me1 (pc' := 178) (L' := [(8, ii 0), (0, .ref 26), (1, .ref p), (2, .ref q), (3, ii ((inA v : Nat) : Int)), (4, ii ((inL v : Nat) : Int)), (5, ii ((inC w : Nat) : Int)), (6, zz (decide (vk v = 6 ∧ vk w = 6))), (7, ii ((r : Nat) : Int))]) (S' := []) dm_X9_inner_176 rfl rfl rfl rfl ?_
            have lp178 : ∀ (n178 : Nat) (k : Nat) (fk : Int) (K : Nat → Int64), inC w - k = n178 → (k ≤ inC w) → (fk = errs (inB v w) (r * inC w + k)) → (fk = 0 → ∀ j, j < r * inC w + k → K j = sopV (inO v w j)) → pgE xt (d - 1) 9 11 false (Option.some (Jvm.ClassFile.FieldType.object "ArrayCalculator$Value")) (mj_dec prog_11_method_14_code) 178 [(0, .ref 26), (1, .ref p), (2, .ref q), (3, ii ((inA v : Nat) : Int)), (4, ii ((inL v : Nat) : Int)), (5, ii ((inC w : Nat) : Int)), (6, zz (decide (vk v = 6 ∧ vk w = 6))), (7, ii ((r : Nat) : Int)), (8, ii ((k : Nat) : Int))] [] (((h).set 26 (cO 9 [.ref 27, .ref 29, .ref 30, .ref 31, ii fk])).set 30 (cJ 144 K)) (fun r h' => ∃ x, r = some x ∧ aact A h (e + 1) (d_inner v w) 2 (inL v * inC w + 9) x h') := by
              intro n178
              induction n178 using Nat.strongRecOn with
              | ind n178 ih178 =>
                intro k fk K hm178 hk hfk hK
                have hfkr : fk = 0 ∨ fk = 6 := by rw [hfk]; exact errs_01 (inB_r v w) (r * inC w + k)
                refine me1 (pc' := 180) (L' := [(0, .ref 26), (1, .ref p), (2, .ref q), (3, ii ((inA v : Nat) : Int)), (4, ii ((inL v : Nat) : Int)), (5, ii ((inC w : Nat) : Int)), (6, zz (decide (vk v = 6 ∧ vk w = 6))), (7, ii ((r : Nat) : Int)), (8, ii ((k : Nat) : Int))]) (S' := [ii ((k : Nat) : Int)]) dm_X9_inner_178 rfl rfl rfl rfl ?_
                refine me1 (pc' := 182) (L' := [(0, .ref 26), (1, .ref p), (2, .ref q), (3, ii ((inA v : Nat) : Int)), (4, ii ((inL v : Nat) : Int)), (5, ii ((inC w : Nat) : Int)), (6, zz (decide (vk v = 6 ∧ vk w = 6))), (7, ii ((r : Nat) : Int)), (8, ii ((k : Nat) : Int))]) (S' := [ii ((inC w : Nat) : Int), ii ((k : Nat) : Int)]) dm_X9_inner_180 rfl rfl rfl rfl ?_
                refine y_2ge (a := ((k : Nat) : Int)) (b := ((inC w : Nat) : Int)) (t := 248) (pc' := 185) dm_X9_inner_182 rfl rfl (by omega) (fun hb13 => ?_) (fun hb13 => ?_)
                · refine y_iinc (pc' := 251) (L' := [(7, ii (((r : Nat) : Int) + 1)), (0, .ref 26), (1, .ref p), (2, .ref q), (3, ii ((inA v : Nat) : Int)), (4, ii ((inL v : Nat) : Int)), (5, ii ((inC w : Nat) : Int)), (6, zz (decide (vk v = 6 ∧ vk w = 6))), (8, ii ((k : Nat) : Int))]) dm_X9_inner_248 (y_incp (a := ((r : Nat) : Int)) (c := 1) rfl rfl (by decide)) rfl ?_
                  refine me2 (pc' := 161) (S' := []) dm_X9_inner_251 rfl rfl rfl ?_
                  exact pg_sub (L := [(0, .ref 26), (1, .ref p), (2, .ref q), (3, ii ((inA v : Nat) : Int)), (4, ii ((inL v : Nat) : Int)), (5, ii ((inC w : Nat) : Int)), (6, zz (decide (vk v = 6 ∧ vk w = 6))), (7, ii (((r + 1) : Nat) : Int))]) rfl rfl rfl (ih161 (inL v - (r + 1)) (by omega) (r + 1) fk K rfl (by omega) (errs_row hk hfk (by omega)) (fun z j hj => hK z j (by have e9 : (r + 1) * inC w = r * inC w + inC w := (by rw [Nat.add_mul, Nat.one_mul]); omega)))
                · refine me1 (pc' := 186) (L' := [(0, .ref 26), (1, .ref p), (2, .ref q), (3, ii ((inA v : Nat) : Int)), (4, ii ((inL v : Nat) : Int)), (5, ii ((inC w : Nat) : Int)), (6, zz (decide (vk v = 6 ∧ vk w = 6))), (7, ii ((r : Nat) : Int)), (8, ii ((k : Nat) : Int))]) (S' := [.ref 26]) dm_X9_inner_185 rfl rfl rfl rfl ?_
                  refine me3 (pc' := 189) (S' := [ii fk]) dm_X9_inner_186 (g_get (v := ii fk) (hl_ne (by decide) (hl_set (hl_lt h26))) rfl rfl (by decide)) rfl rfl rfl ?_
                  refine y_1ne (a := fk) (t := 248) (pc' := 192) dm_X9_inner_189 rfl rfl (by omega) (fun hb14 => ?_) (fun hb14 => ?_)
                  · refine y_iinc (pc' := 251) (L' := [(7, ii (((r : Nat) : Int) + 1)), (0, .ref 26), (1, .ref p), (2, .ref q), (3, ii ((inA v : Nat) : Int)), (4, ii ((inL v : Nat) : Int)), (5, ii ((inC w : Nat) : Int)), (6, zz (decide (vk v = 6 ∧ vk w = 6))), (8, ii ((k : Nat) : Int))]) dm_X9_inner_248 (y_incp (a := ((r : Nat) : Int)) (c := 1) rfl rfl (by decide)) rfl ?_
                    refine me2 (pc' := 161) (S' := []) dm_X9_inner_251 rfl rfl rfl ?_
                    exact pg_sub (L := [(0, .ref 26), (1, .ref p), (2, .ref q), (3, ii ((inA v : Nat) : Int)), (4, ii ((inL v : Nat) : Int)), (5, ii ((inC w : Nat) : Int)), (6, zz (decide (vk v = 6 ∧ vk w = 6))), (7, ii (((r + 1) : Nat) : Int))]) rfl rfl rfl (ih161 (inL v - (r + 1)) (by omega) (r + 1) fk K rfl (by omega) (errs_row hk hfk (by omega)) (fun z j hj => hK z j (by have e9 : (r + 1) * inC w = r * inC w + inC w := (by rw [Nat.add_mul, Nat.one_mul]); omega)))
                  · have hft0 : fk = 0 := by omega
                    have hiN : r * inC w + k < inL v * inC w := lin_lt (by omega) (by omega)
                    have hix : ∀ t, t < vm w → (r * inC w + k) / inC w * inA v + t < vq v ∧ (r * inC w + k) % inC w + t * inC w < vq w ∧ 0 < inC w := fun t ht => inX hv.1 hw.1 hrt hal hiN ht
                    have hdl := dm_lin (r := r) (show k < inC w by omega)
                    refine me1 (pc' := 193) (L' := [(0, .ref 26), (1, .ref p), (2, .ref q), (3, ii ((inA v : Nat) : Int)), (4, ii ((inL v : Nat) : Int)), (5, ii ((inC w : Nat) : Int)), (6, zz (decide (vk v = 6 ∧ vk w = 6))), (7, ii ((r : Nat) : Int)), (8, ii ((k : Nat) : Int))]) (S' := [.ref 26]) dm_X9_inner_192 rfl rfl rfl rfl ?_
                    refine me1 (pc' := 194) (L' := [(0, .ref 26), (1, .ref p), (2, .ref q), (3, ii ((inA v : Nat) : Int)), (4, ii ((inL v : Nat) : Int)), (5, ii ((inC w : Nat) : Int)), (6, zz (decide (vk v = 6 ∧ vk w = 6))), (7, ii ((r : Nat) : Int)), (8, ii ((k : Nat) : Int))]) (S' := [.ref p, .ref 26]) dm_X9_inner_193 rfl rfl rfl rfl ?_
                    refine me1 (pc' := 196) (L' := [(0, .ref 26), (1, .ref p), (2, .ref q), (3, ii ((inA v : Nat) : Int)), (4, ii ((inL v : Nat) : Int)), (5, ii ((inC w : Nat) : Int)), (6, zz (decide (vk v = 6 ∧ vk w = 6))), (7, ii ((r : Nat) : Int)), (8, ii ((k : Nat) : Int))]) (S' := [ii ((r : Nat) : Int), .ref p, .ref 26]) dm_X9_inner_194 rfl rfl rfl rfl ?_
                    refine me1 (pc' := 197) (L' := [(0, .ref 26), (1, .ref p), (2, .ref q), (3, ii ((inA v : Nat) : Int)), (4, ii ((inL v : Nat) : Int)), (5, ii ((inC w : Nat) : Int)), (6, zz (decide (vk v = 6 ∧ vk w = 6))), (7, ii ((r : Nat) : Int)), (8, ii ((k : Nat) : Int))]) (S' := [ii ((inA v : Nat) : Int), ii ((r : Nat) : Int), .ref p, .ref 26]) dm_X9_inner_196 rfl rfl rfl rfl ?_
                    refine y_imul (a := ((r : Nat) : Int)) (b := ((inA v : Nat) : Int)) dm_X9_inner_197 (pc' := 198) rfl ?_
                    refine pg_st0 (S' := [ii (((r * inC w + k) / inC w * inA v : Nat) : Int), .ref p, .ref 26]) (congrArg (fun z => ii z :: [.ref p, .ref 26]) (by rw [hdl.1]; push_cast; rfl)) ?_
                    refine me1 (pc' := 199) (L' := [(0, .ref 26), (1, .ref p), (2, .ref q), (3, ii ((inA v : Nat) : Int)), (4, ii ((inL v : Nat) : Int)), (5, ii ((inC w : Nat) : Int)), (6, zz (decide (vk v = 6 ∧ vk w = 6))), (7, ii ((r : Nat) : Int)), (8, ii ((k : Nat) : Int))]) (S' := [.ref q, ii (((r * inC w + k) / inC w * inA v : Nat) : Int), .ref p, .ref 26]) dm_X9_inner_198 rfl rfl rfl rfl ?_
                    refine me1 (pc' := 201) (L' := [(0, .ref 26), (1, .ref p), (2, .ref q), (3, ii ((inA v : Nat) : Int)), (4, ii ((inL v : Nat) : Int)), (5, ii ((inC w : Nat) : Int)), (6, zz (decide (vk v = 6 ∧ vk w = 6))), (7, ii ((r : Nat) : Int)), (8, ii ((k : Nat) : Int))]) (S' := [ii ((k : Nat) : Int), .ref q, ii (((r * inC w + k) / inC w * inA v : Nat) : Int), .ref p, .ref 26]) dm_X9_inner_199 rfl rfl rfl rfl ?_
                    refine pg_st0 (S' := [ii (((r * inC w + k) % inC w : Nat) : Int), .ref q, ii (((r * inC w + k) / inC w * inA v : Nat) : Int), .ref p, .ref 26]) (congrArg (fun z => ii z :: [.ref q, ii (((r * inC w + k) / inC w * inA v : Nat) : Int), .ref p, .ref 26]) (by rw [hdl.2])) ?_
                    refine me1 (pc' := 203) (L' := [(0, .ref 26), (1, .ref p), (2, .ref q), (3, ii ((inA v : Nat) : Int)), (4, ii ((inL v : Nat) : Int)), (5, ii ((inC w : Nat) : Int)), (6, zz (decide (vk v = 6 ∧ vk w = 6))), (7, ii ((r : Nat) : Int)), (8, ii ((k : Nat) : Int))]) (S' := [ii ((inC w : Nat) : Int), ii (((r * inC w + k) % inC w : Nat) : Int), .ref q, ii (((r * inC w + k) / inC w * inA v : Nat) : Int), .ref p, .ref 26]) dm_X9_inner_201 rfl rfl rfl rfl ?_
                    refine x_cv (pc' := 206) (rest := []) dm_X9_inner_203 rfl (g_inv (As := [.ref p, ii (((r * inC w + k) / inC w * inA v : Nat) : Int), .ref q, ii (((r * inC w + k) % inC w : Nat) : Int), ii ((inC w : Nat) : Int)]) (S := []) (hl_ne (by decide) (hl_set (hl_lt h26))) rfl rfl rfl (by decide)) rfl rfl rfl ((show pgV xt (d - 1) _ _ _ (fun x h' => x = .long (sopV (inO v w (r * inC w + k))) ∧ h' = ((h).set 26 (cO 9 [.ref 27, .ref 29, .ref 30, .ref 31, ii (sopE (inO v w (r * inC w + k)) fk)])).set 30 (cJ 144 K)) from by have z := t_sumOfProducts (xt := xt) (d := d - 1) (h := ((h).set 26 (cO 9 [.ref 27, .ref 29, .ref 30, .ref 31, ii fk])).set 30 (cJ 144 K)) (fr0 := (r * inC w + k) / inC w * inA v) (s0 := (r * inC w + k) % inC w) (st0 := inC w) (ft0 := fk) hx1 (by omega) (cv_set (nA hA (Or.inl (by decide))) (cv_set (nA hA (Or.inl (by decide))) hv)) (cv_set (nA hA (Or.inl (by decide))) (cv_set (nA hA (Or.inl (by decide))) hw)) (by omega) (by omega) (hl_ne (by decide) (hl_set (hl_lt h26))) (fun t ht => (hix t ht).1) (fun t ht => (hix t ht).2.1); rw [setoq (by decide)] at z; exact z)) ?_
                    rintro _ _ ⟨rfl, rfl⟩
                    have hsr := sopE_r (inO v w (r * inC w + k)) (f := fk) (by omega)
                    refine me1 (pc' := 208) (L' := [(9, .long (sopV (inO v w (r * inC w + k)))), (0, .ref 26), (1, .ref p), (2, .ref q), (3, ii ((inA v : Nat) : Int)), (4, ii ((inL v : Nat) : Int)), (5, ii ((inC w : Nat) : Int)), (6, zz (decide (vk v = 6 ∧ vk w = 6))), (7, ii ((r : Nat) : Int)), (8, ii ((k : Nat) : Int))]) (S' := []) dm_X9_inner_206 rfl rfl rfl rfl ?_
                    refine me1 (pc' := 209) (L' := [(9, .long (sopV (inO v w (r * inC w + k)))), (0, .ref 26), (1, .ref p), (2, .ref q), (3, ii ((inA v : Nat) : Int)), (4, ii ((inL v : Nat) : Int)), (5, ii ((inC w : Nat) : Int)), (6, zz (decide (vk v = 6 ∧ vk w = 6))), (7, ii ((r : Nat) : Int)), (8, ii ((k : Nat) : Int))]) (S' := [.ref 26]) dm_X9_inner_208 rfl rfl rfl rfl ?_
                    refine me3 (pc' := 212) (S' := [.ref 30]) dm_X9_inner_209 (g_get (v := .ref 30) (hl_ne (by decide) (hl_set (hl_lt h26))) rfl rfl (by decide)) rfl rfl rfl ?_
                    refine me1 (pc' := 214) (L' := [(9, .long (sopV (inO v w (r * inC w + k)))), (0, .ref 26), (1, .ref p), (2, .ref q), (3, ii ((inA v : Nat) : Int)), (4, ii ((inL v : Nat) : Int)), (5, ii ((inC w : Nat) : Int)), (6, zz (decide (vk v = 6 ∧ vk w = 6))), (7, ii ((r : Nat) : Int)), (8, ii ((k : Nat) : Int))]) (S' := [ii ((r : Nat) : Int), .ref 30]) dm_X9_inner_212 rfl rfl rfl rfl ?_
                    refine me1 (pc' := 216) (L' := [(9, .long (sopV (inO v w (r * inC w + k)))), (0, .ref 26), (1, .ref p), (2, .ref q), (3, ii ((inA v : Nat) : Int)), (4, ii ((inL v : Nat) : Int)), (5, ii ((inC w : Nat) : Int)), (6, zz (decide (vk v = 6 ∧ vk w = 6))), (7, ii ((r : Nat) : Int)), (8, ii ((k : Nat) : Int))]) (S' := [ii ((inC w : Nat) : Int), ii ((r : Nat) : Int), .ref 30]) dm_X9_inner_214 rfl rfl rfl rfl ?_
                    refine y_imul (a := ((r : Nat) : Int)) (b := ((inC w : Nat) : Int)) dm_X9_inner_216 (pc' := 217) rfl ?_
                    refine me1 (pc' := 219) (L' := [(9, .long (sopV (inO v w (r * inC w + k)))), (0, .ref 26), (1, .ref p), (2, .ref q), (3, ii ((inA v : Nat) : Int)), (4, ii ((inL v : Nat) : Int)), (5, ii ((inC w : Nat) : Int)), (6, zz (decide (vk v = 6 ∧ vk w = 6))), (7, ii ((r : Nat) : Int)), (8, ii ((k : Nat) : Int))]) (S' := [ii ((k : Nat) : Int), ii (((r : Nat) : Int) * ((inC w : Nat) : Int)), .ref 30]) dm_X9_inner_217 rfl rfl rfl rfl ?_
                    refine y_iadd (a := ((r : Nat) : Int) * ((inC w : Nat) : Int)) (b := ((k : Nat) : Int)) dm_X9_inner_219 (pc' := 220) rfl ?_
                    refine pg_st0 (S' := [ii ((r * inC w + k : Nat) : Int), .ref 30]) (congrArg (fun z => ii z :: [.ref 30]) (by push_cast; rfl)) ?_
                    refine me1 (pc' := 222) (L' := [(9, .long (sopV (inO v w (r * inC w + k)))), (0, .ref 26), (1, .ref p), (2, .ref q), (3, ii ((inA v : Nat) : Int)), (4, ii ((inL v : Nat) : Int)), (5, ii ((inC w : Nat) : Int)), (6, zz (decide (vk v = 6 ∧ vk w = 6))), (7, ii ((r : Nat) : Int)), (8, ii ((k : Nat) : Int))]) (S' := [.long (sopV (inO v w (r * inC w + k))), ii ((r * inC w + k : Nat) : Int), .ref 30]) dm_X9_inner_220 rfl rfl rfl rfl ?_
                    refine me3 (pc' := 223) (S' := []) (h1 := ((h).set 26 (cO 9 [.ref 27, .ref 29, .ref 30, .ref 31, ii (sopE (inO v w (r * inC w + k)) fk)])).set 30 (cJ 144 (va_up K (r * inC w + k) (sopV (inO v w (r * inC w + k)))))) dm_X9_inner_222 (y_hs (yh_last (j := ((r * inC w + k : Nat) : Int)) (hl_set (hl_lt (hl_ne (by decide) h30))) (by omega) (by omega) (by omega) (by decide)) (by rw [show ((r * inC w + k : Nat) : Int).toNat = r * inC w + k from rfl]; rw [List.set_set])) rfl rfl rfl ?_
                    refine me1 (pc' := 225) (L' := [(9, .long (sopV (inO v w (r * inC w + k)))), (0, .ref 26), (1, .ref p), (2, .ref q), (3, ii ((inA v : Nat) : Int)), (4, ii ((inL v : Nat) : Int)), (5, ii ((inC w : Nat) : Int)), (6, zz (decide (vk v = 6 ∧ vk w = 6))), (7, ii ((r : Nat) : Int)), (8, ii ((k : Nat) : Int))]) (S' := [zz (decide (vk v = 6 ∧ vk w = 6))]) dm_X9_inner_223 rfl rfl rfl rfl ?_
                    refine y_zeq (c := decide (vk v = 6 ∧ vk w = 6)) (t := 242) (pc' := 228) dm_X9_inner_225 rfl rfl (fun hb15 => ?_) (fun hb15 => ?_)
                    · replace hb15 := dF hb15
                      have hft1 : sopE (inO v w (r * inC w + k)) fk = inB v w (r * inC w + k) := by unfold inB; cases hoo : inO v w (r * inC w + k) with | none => (rw [if_pos (Or.inl rfl)]; rfl) | some s9 => (rw [if_neg (fun z => by rcases z with z | z; cases z; exact hb15 ⟨z.1, z.2.1⟩)]; exact hft0)
                      refine y_iinc (pc' := 245) (L' := [(8, ii (((k : Nat) : Int) + 1)), (9, .long (sopV (inO v w (r * inC w + k)))), (0, .ref 26), (1, .ref p), (2, .ref q), (3, ii ((inA v : Nat) : Int)), (4, ii ((inL v : Nat) : Int)), (5, ii ((inC w : Nat) : Int)), (6, zz (decide (vk v = 6 ∧ vk w = 6))), (7, ii ((r : Nat) : Int))]) dm_X9_inner_242 (y_incp (a := ((k : Nat) : Int)) (c := 1) rfl rfl (by decide)) rfl ?_
                      refine me2 (pc' := 178) (S' := []) dm_X9_inner_245 rfl rfl rfl ?_
                      exact pg_sub (L := [(0, .ref 26), (1, .ref p), (2, .ref q), (3, ii ((inA v : Nat) : Int)), (4, ii ((inL v : Nat) : Int)), (5, ii ((inC w : Nat) : Int)), (6, zz (decide (vk v = 6 ∧ vk w = 6))), (7, ii ((r : Nat) : Int)), (8, ii (((k + 1) : Nat) : Int))]) rfl rfl rfl (ih178 (inC w - (k + 1)) (by omega) (k + 1) (sopE (inO v w (r * inC w + k)) fk) (va_up K (r * inC w + k) (sopV (inO v w (r * inC w + k)))) rfl (by omega) (by rw [show r * inC w + (k + 1) = r * inC w + k + 1 from rfl, errs_s0 (by omega)]; exact hft1) (fun z j hj => by rw [up_at]; by_cases y : j = (r * inC w + k); (rw [if_pos y, y]); (rw [if_neg y]; exact hK hft0 j (by omega))))
                    · replace hb15 := dT hb15
                      refine me1 (pc' := 230) (L' := [(9, .long (sopV (inO v w (r * inC w + k)))), (0, .ref 26), (1, .ref p), (2, .ref q), (3, ii ((inA v : Nat) : Int)), (4, ii ((inL v : Nat) : Int)), (5, ii ((inC w : Nat) : Int)), (6, zz (decide (vk v = 6 ∧ vk w = 6))), (7, ii ((r : Nat) : Int)), (8, ii ((k : Nat) : Int))]) (S' := [.long (sopV (inO v w (r * inC w + k)))]) dm_X9_inner_228 rfl rfl rfl rfl ?_
                      refine x_cp (pc' := 233) (v := zz (fitsB (sopV (inO v w (r * inC w + k))))) (rest := []) dm_X9_inner_230 rfl (g_invs (As := [.long (sopV (inO v w (r * inC w + k)))]) (S := []) rfl rfl rfl) rfl rfl rfl (c_fitsInt (by omega)) ?_
                      refine y_zne (c := fitsB (sopV (inO v w (r * inC w + k)))) (t := 242) (pc' := 236) dm_X9_inner_233 rfl rfl (fun hb16 => ?_) (fun hb16 => ?_)
                      · have hft1 : sopE (inO v w (r * inC w + k)) fk = inB v w (r * inC w + k) := by unfold inB; cases hoo : inO v w (r * inC w + k) with | none => (rw [if_pos (Or.inl rfl)]; rfl) | some s9 => (rw [hoo] at hb16; rw [if_neg (fun z => by rcases z with z | z; cases z; (have z2 := z.2.2; rw [hb16] at z2; cases z2))]; exact hft0)
                        refine y_iinc (pc' := 245) (L' := [(8, ii (((k : Nat) : Int) + 1)), (9, .long (sopV (inO v w (r * inC w + k)))), (0, .ref 26), (1, .ref p), (2, .ref q), (3, ii ((inA v : Nat) : Int)), (4, ii ((inL v : Nat) : Int)), (5, ii ((inC w : Nat) : Int)), (6, zz (decide (vk v = 6 ∧ vk w = 6))), (7, ii ((r : Nat) : Int))]) dm_X9_inner_242 (y_incp (a := ((k : Nat) : Int)) (c := 1) rfl rfl (by decide)) rfl ?_
                        refine me2 (pc' := 178) (S' := []) dm_X9_inner_245 rfl rfl rfl ?_
                        exact pg_sub (L := [(0, .ref 26), (1, .ref p), (2, .ref q), (3, ii ((inA v : Nat) : Int)), (4, ii ((inL v : Nat) : Int)), (5, ii ((inC w : Nat) : Int)), (6, zz (decide (vk v = 6 ∧ vk w = 6))), (7, ii ((r : Nat) : Int)), (8, ii (((k + 1) : Nat) : Int))]) rfl rfl rfl (ih178 (inC w - (k + 1)) (by omega) (k + 1) (sopE (inO v w (r * inC w + k)) fk) (va_up K (r * inC w + k) (sopV (inO v w (r * inC w + k)))) rfl (by omega) (by rw [show r * inC w + (k + 1) = r * inC w + k + 1 from rfl, errs_s0 (by omega)]; exact hft1) (fun z j hj => by rw [up_at]; by_cases y : j = (r * inC w + k); (rw [if_pos y, y]); (rw [if_neg y]; exact hK hft0 j (by omega))))
                      · have hft1 : (6 : Int) = inB v w (r * inC w + k) := by unfold inB; rw [if_pos (Or.inr ⟨hb15.1, hb15.2, hb16⟩)]
                        refine me1 (pc' := 237) (L' := [(9, .long (sopV (inO v w (r * inC w + k)))), (0, .ref 26), (1, .ref p), (2, .ref q), (3, ii ((inA v : Nat) : Int)), (4, ii ((inL v : Nat) : Int)), (5, ii ((inC w : Nat) : Int)), (6, zz (decide (vk v = 6 ∧ vk w = 6))), (7, ii ((r : Nat) : Int)), (8, ii ((k : Nat) : Int))]) (S' := [.ref 26]) dm_X9_inner_236 rfl rfl rfl rfl ?_
                        refine me0 (pc' := 239) (S' := [ii 6, .ref 26]) dm_X9_inner_237 rfl rfl rfl rfl ?_
                        refine me3 (pc' := 242) (S' := []) (h1 := (((h).set 26 (cO 9 [.ref 27, .ref 29, .ref 30, .ref 31, ii (sopE (inO v w (r * inC w + k)) fk)])).set 30 (cJ 144 (va_up K (r * inC w + k) (sopV (inO v w (r * inC w + k)))))).set 26 (cO 9 [.ref 27, .ref 29, .ref 30, .ref 31, ii 6])) dm_X9_inner_239 (g_put (fs' := [.ref 27, .ref 29, .ref 30, .ref 31, ii 6]) (hl_ne (by decide) (hl_set (hl_lt h26))) rfl rfl rfl (by simp) rfl (by decide) (fun z => by cases z) (by decide)) rfl rfl rfl ?_
                        refine y_iinc (pc' := 245) (L' := [(8, ii (((k : Nat) : Int) + 1)), (9, .long (sopV (inO v w (r * inC w + k)))), (0, .ref 26), (1, .ref p), (2, .ref q), (3, ii ((inA v : Nat) : Int)), (4, ii ((inL v : Nat) : Int)), (5, ii ((inC w : Nat) : Int)), (6, zz (decide (vk v = 6 ∧ vk w = 6))), (7, ii ((r : Nat) : Int))]) dm_X9_inner_242 (y_incp (a := ((k : Nat) : Int)) (c := 1) rfl rfl (by decide)) rfl ?_
                        refine me2 (pc' := 178) (S' := []) dm_X9_inner_245 rfl rfl rfl ?_
                        refine pg_cast (h2 := ((h).set 26 (cO 9 [.ref 27, .ref 29, .ref 30, .ref 31, ii 6])).set 30 (cJ 144 (va_up K (r * inC w + k) (sopV (inO v w (r * inC w + k)))))) (setoq (by decide)) ?_
                        exact pg_sub (L := [(0, .ref 26), (1, .ref p), (2, .ref q), (3, ii ((inA v : Nat) : Int)), (4, ii ((inL v : Nat) : Int)), (5, ii ((inC w : Nat) : Int)), (6, zz (decide (vk v = 6 ∧ vk w = 6))), (7, ii ((r : Nat) : Int)), (8, ii (((k + 1) : Nat) : Int))]) rfl rfl rfl (ih178 (inC w - (k + 1)) (by omega) (k + 1) 6 (va_up K (r * inC w + k) (sopV (inO v w (r * inC w + k)))) rfl (by omega) (by rw [show r * inC w + (k + 1) = r * inC w + k + 1 from rfl, errs_s0 (by omega)]; exact hft1) (fun z j hj => by rw [up_at]; by_cases y : j = (r * inC w + k); (rw [if_pos y, y]); (rw [if_neg y]; exact hK hft0 j (by omega))))
            exact pg_sub (L := [(0, .ref 26), (1, .ref p), (2, .ref q), (3, ii ((inA v : Nat) : Int)), (4, ii ((inL v : Nat) : Int)), (5, ii ((inC w : Nat) : Int)), (6, zz (decide (vk v = 6 ∧ vk w = 6))), (7, ii ((r : Nat) : Int)), (8, ii ((0 : Nat) : Int))]) rfl rfl rfl (lp178 _ 0 ft G rfl (Nat.zero_le _) hft hG)
    refine pg_cast (h2 := ((h).set 26 (cO 9 [.ref 27, .ref 29, .ref 30, .ref 31, ii 0])).set 30 (cJ 144 nf0)) (hl_self (hl_ne (by decide) h30)).symm ?_
    exact pg_sub (L := [(0, .ref 26), (1, .ref p), (2, .ref q), (3, ii ((inA v : Nat) : Int)), (4, ii ((inL v : Nat) : Int)), (5, ii ((inC w : Nat) : Int)), (6, zz (decide (vk v = 6 ∧ vk w = 6))), (7, ii ((0 : Nat) : Int))]) rfl rfl rfl (lp161 _ 0 0 nf0 rfl (Nat.zero_le _) (by rw [Nat.zero_mul]; rfl) (fun _ j hj => by rw [Nat.zero_mul] at hj; exact absurd hj (Nat.not_lt_zero j)))
  have cut128 : (2 ≤ vk v ∧ vk v ≤ 6 ∧ 2 ≤ vk w ∧ vk w ≤ 6) → (¬ (vk v = 3 ∨ vk w = 3)) → (inA v = vm w) → pgE xt (d - 1) 9 11 false (Option.some (Jvm.ClassFile.FieldType.object "ArrayCalculator$Value")) (mj_dec prog_11_method_14_code) 128 [(0, .ref 26), (1, .ref p), (2, .ref q), (3, ii ((inA v : Nat) : Int)), (4, ii ((inL v : Nat) : Int)), (5, ii ((inC w : Nat) : Int))] [] h (fun r h' => ∃ x, r = some x ∧ aact A h (e + 1) (d_inner v w) 2 (inL v * inC w + 9) x h') := by
    intro hrt hns hal
    have hcp : 0 < inC w := by unfold inC; split <;> omega
    have hlp : inL v ≤ 12 := by unfold inL; split <;> omega
    have hcp2 : inC w ≤ 12 := by unfold inC; split <;> omega
    have hap : inA v ≤ 120 := by unfold inA; split <;> omega
    have hnn : inL v * inC w ≤ 144 := Nat.mul_le_mul hlp hcp2
    refine me1 (pc' := 129) (L' := [(0, .ref 26), (1, .ref p), (2, .ref q), (3, ii ((inA v : Nat) : Int)), (4, ii ((inL v : Nat) : Int)), (5, ii ((inC w : Nat) : Int))]) (S' := [.ref p]) dm_X9_inner_128 rfl rfl rfl rfl ?_
    refine me3 (pc' := 132) (S' := [ii (vk v : Int)]) dm_X9_inner_129 (g_get (v := ii (vk v : Int)) hp rfl rfl (by omega)) rfl rfl rfl ?_
    refine me0 (pc' := 134) (S' := [ii 6, ii (vk v : Int)]) dm_X9_inner_132 rfl rfl rfl rfl ?_
    refine y_2ne (a := (vk v : Int)) (b := 6) (t := 150) (pc' := 137) dm_X9_inner_134 rfl rfl (by omega) (fun hb17 => ?_) (fun hb17 => ?_)
    · refine me0 (pc' := 151) (S' := [ii 0]) dm_X9_inner_150 rfl rfl rfl rfl ?_
      refine pg_st0 (S' := [zz (decide (vk v = 6 ∧ vk w = 6))]) (congrArg (fun z => z :: []) (zf (by omega))) ?_
      refine me1 (pc' := 153) (L' := [(6, zz (decide (vk v = 6 ∧ vk w = 6))), (0, .ref 26), (1, .ref p), (2, .ref q), (3, ii ((inA v : Nat) : Int)), (4, ii ((inL v : Nat) : Int)), (5, ii ((inC w : Nat) : Int))]) (S' := []) dm_X9_inner_151 rfl rfl rfl rfl ?_
      exact pg_sub (L := [(0, .ref 26), (1, .ref p), (2, .ref q), (3, ii ((inA v : Nat) : Int)), (4, ii ((inL v : Nat) : Int)), (5, ii ((inC w : Nat) : Int)), (6, zz (decide (vk v = 6 ∧ vk w = 6)))]) rfl rfl rfl (cut153 (by omega) (by omega) (by omega))
    · refine me1 (pc' := 138) (L' := [(0, .ref 26), (1, .ref p), (2, .ref q), (3, ii ((inA v : Nat) : Int)), (4, ii ((inL v : Nat) : Int)), (5, ii ((inC w : Nat) : Int))]) (S' := [.ref q]) dm_X9_inner_137 rfl rfl rfl rfl ?_
      refine me3 (pc' := 141) (S' := [ii (vk w : Int)]) dm_X9_inner_138 (g_get (v := ii (vk w : Int)) hq rfl rfl (by omega)) rfl rfl rfl ?_
      refine me0 (pc' := 143) (S' := [ii 6, ii (vk w : Int)]) dm_X9_inner_141 rfl rfl rfl rfl ?_
      refine y_2ne (a := (vk w : Int)) (b := 6) (t := 150) (pc' := 146) dm_X9_inner_143 rfl rfl (by omega) (fun hb18 => ?_) (fun hb18 => ?_)
      · refine me0 (pc' := 151) (S' := [ii 0]) dm_X9_inner_150 rfl rfl rfl rfl ?_
        refine pg_st0 (S' := [zz (decide (vk v = 6 ∧ vk w = 6))]) (congrArg (fun z => z :: []) (zf (by omega))) ?_
        refine me1 (pc' := 153) (L' := [(6, zz (decide (vk v = 6 ∧ vk w = 6))), (0, .ref 26), (1, .ref p), (2, .ref q), (3, ii ((inA v : Nat) : Int)), (4, ii ((inL v : Nat) : Int)), (5, ii ((inC w : Nat) : Int))]) (S' := []) dm_X9_inner_151 rfl rfl rfl rfl ?_
        exact pg_sub (L := [(0, .ref 26), (1, .ref p), (2, .ref q), (3, ii ((inA v : Nat) : Int)), (4, ii ((inL v : Nat) : Int)), (5, ii ((inC w : Nat) : Int)), (6, zz (decide (vk v = 6 ∧ vk w = 6)))]) rfl rfl rfl (cut153 (by omega) (by omega) (by omega))
      · refine me0 (pc' := 147) (S' := [ii 1]) dm_X9_inner_146 rfl rfl rfl rfl ?_
        refine me2 (pc' := 151) (S' := [ii 1]) dm_X9_inner_147 rfl rfl rfl ?_
        refine pg_st0 (S' := [zz (decide (vk v = 6 ∧ vk w = 6))]) (congrArg (fun z => z :: []) (zt (by omega))) ?_
        refine me1 (pc' := 153) (L' := [(6, zz (decide (vk v = 6 ∧ vk w = 6))), (0, .ref 26), (1, .ref p), (2, .ref q), (3, ii ((inA v : Nat) : Int)), (4, ii ((inL v : Nat) : Int)), (5, ii ((inC w : Nat) : Int))]) (S' := []) dm_X9_inner_151 rfl rfl rfl rfl ?_
        exact pg_sub (L := [(0, .ref 26), (1, .ref p), (2, .ref q), (3, ii ((inA v : Nat) : Int)), (4, ii ((inL v : Nat) : Int)), (5, ii ((inC w : Nat) : Int)), (6, zz (decide (vk v = 6 ∧ vk w = 6)))]) rfl rfl rfl (cut153 (by omega) (by omega) (by omega))
  have cut109 : (2 ≤ vk v ∧ vk v ≤ 6 ∧ 2 ≤ vk w ∧ vk w ≤ 6) → (¬ (vk v = 3 ∨ vk w = 3)) → (inA v = vm w) → pgE xt (d - 1) 9 11 false (Option.some (Jvm.ClassFile.FieldType.object "ArrayCalculator$Value")) (mj_dec prog_11_method_14_code) 109 [(0, .ref 26), (1, .ref p), (2, .ref q), (3, ii ((inA v : Nat) : Int)), (4, ii ((inL v : Nat) : Int))] [] h (fun r h' => ∃ x, r = some x ∧ aact A h (e + 1) (d_inner v w) 2 (inL v * inC w + 9) x h') := by
    intro hrt hns hal
    have hcp : 0 < inC w := by unfold inC; split <;> omega
    have hlp : inL v ≤ 12 := by unfold inL; split <;> omega
    have hcp2 : inC w ≤ 12 := by unfold inC; split <;> omega
    have hap : inA v ≤ 120 := by unfold inA; split <;> omega
    have hnn : inL v * inC w ≤ 144 := Nat.mul_le_mul hlp hcp2
    refine me1 (pc' := 110) (L' := [(0, .ref 26), (1, .ref p), (2, .ref q), (3, ii ((inA v : Nat) : Int)), (4, ii ((inL v : Nat) : Int))]) (S' := [.ref q]) dm_X9_inner_109 rfl rfl rfl rfl ?_
    refine me3 (pc' := 113) (S' := [ii (vk w : Int)]) dm_X9_inner_110 (g_get (v := ii (vk w : Int)) hq rfl rfl (by omega)) rfl rfl rfl ?_
    refine me0 (pc' := 115) (S' := [ii 6, ii (vk w : Int)]) dm_X9_inner_113 rfl rfl rfl rfl ?_
    refine y_2ne (a := (vk w : Int)) (b := 6) (t := 125) (pc' := 118) dm_X9_inner_115 rfl rfl (by omega) (fun hb19 => ?_) (fun hb19 => ?_)
    · refine me0 (pc' := 126) (S' := [ii 1]) dm_X9_inner_125 rfl rfl rfl rfl ?_
      refine pg_st0 (S' := [ii ((inC w : Nat) : Int)]) (congrArg (fun z => ii z :: []) (by unfold inC; first | rw [if_pos (by omega)] | (rw [if_neg (by omega)]; rfl))) ?_
      refine me1 (pc' := 128) (L' := [(5, ii ((inC w : Nat) : Int)), (0, .ref 26), (1, .ref p), (2, .ref q), (3, ii ((inA v : Nat) : Int)), (4, ii ((inL v : Nat) : Int))]) (S' := []) dm_X9_inner_126 rfl rfl rfl rfl ?_
      exact pg_sub (L := [(0, .ref 26), (1, .ref p), (2, .ref q), (3, ii ((inA v : Nat) : Int)), (4, ii ((inL v : Nat) : Int)), (5, ii ((inC w : Nat) : Int))]) rfl rfl rfl (cut128 (by omega) (by omega) (by omega))
    · refine me1 (pc' := 119) (L' := [(0, .ref 26), (1, .ref p), (2, .ref q), (3, ii ((inA v : Nat) : Int)), (4, ii ((inL v : Nat) : Int))]) (S' := [.ref q]) dm_X9_inner_118 rfl rfl rfl rfl ?_
      refine me3 (pc' := 122) (S' := [ii (vc w : Int)]) dm_X9_inner_119 (g_get (v := ii (vc w : Int)) hq rfl rfl (by omega)) rfl rfl rfl ?_
      refine me2 (pc' := 126) (S' := [ii (vc w : Int)]) dm_X9_inner_122 rfl rfl rfl ?_
      refine pg_st0 (S' := [ii ((inC w : Nat) : Int)]) (congrArg (fun z => ii z :: []) (by unfold inC; first | rw [if_pos (by omega)] | (rw [if_neg (by omega)]; rfl))) ?_
      refine me1 (pc' := 128) (L' := [(5, ii ((inC w : Nat) : Int)), (0, .ref 26), (1, .ref p), (2, .ref q), (3, ii ((inA v : Nat) : Int)), (4, ii ((inL v : Nat) : Int))]) (S' := []) dm_X9_inner_126 rfl rfl rfl rfl ?_
      exact pg_sub (L := [(0, .ref 26), (1, .ref p), (2, .ref q), (3, ii ((inA v : Nat) : Int)), (4, ii ((inL v : Nat) : Int)), (5, ii ((inC w : Nat) : Int))]) rfl rfl rfl (cut128 (by omega) (by omega) (by omega))
  have cut77 : (2 ≤ vk v ∧ vk v ≤ 6 ∧ 2 ≤ vk w ∧ vk w ≤ 6) → (¬ (vk v = 3 ∨ vk w = 3)) → pgE xt (d - 1) 9 11 false (Option.some (Jvm.ClassFile.FieldType.object "ArrayCalculator$Value")) (mj_dec prog_11_method_14_code) 77 [(0, .ref 26), (1, .ref p), (2, .ref q), (3, ii ((inA v : Nat) : Int))] [] h (fun r h' => ∃ x, r = some x ∧ aact A h (e + 1) (d_inner v w) 2 (inL v * inC w + 9) x h') := by
    intro hrt hns
    have hcp : 0 < inC w := by unfold inC; split <;> omega
    have hlp : inL v ≤ 12 := by unfold inL; split <;> omega
    have hcp2 : inC w ≤ 12 := by unfold inC; split <;> omega
    have hap : inA v ≤ 120 := by unfold inA; split <;> omega
    have hnn : inL v * inC w ≤ 144 := Nat.mul_le_mul hlp hcp2
    refine me1 (pc' := 78) (L' := [(0, .ref 26), (1, .ref p), (2, .ref q), (3, ii ((inA v : Nat) : Int))]) (S' := [ii ((inA v : Nat) : Int)]) dm_X9_inner_77 rfl rfl rfl rfl ?_
    refine me1 (pc' := 79) (L' := [(0, .ref 26), (1, .ref p), (2, .ref q), (3, ii ((inA v : Nat) : Int))]) (S' := [.ref q, ii ((inA v : Nat) : Int)]) dm_X9_inner_78 rfl rfl rfl rfl ?_
    refine me3 (pc' := 82) (S' := [ii (vm w : Int), ii ((inA v : Nat) : Int)]) dm_X9_inner_79 (g_get (v := ii (vm w : Int)) hq rfl rfl (by omega)) rfl rfl rfl ?_
    refine y_2eq (a := ((inA v : Nat) : Int)) (b := (vm w : Int)) (t := 90) (pc' := 85) dm_X9_inner_82 rfl rfl (by omega) (fun hb20 => ?_) (fun hb20 => ?_)
    · refine me1 (pc' := 91) (L' := [(0, .ref 26), (1, .ref p), (2, .ref q), (3, ii ((inA v : Nat) : Int))]) (S' := [.ref p]) dm_X9_inner_90 rfl rfl rfl rfl ?_
      refine me3 (pc' := 94) (S' := [ii (vk v : Int)]) dm_X9_inner_91 (g_get (v := ii (vk v : Int)) hp rfl rfl (by omega)) rfl rfl rfl ?_
      refine me0 (pc' := 96) (S' := [ii 6, ii (vk v : Int)]) dm_X9_inner_94 rfl rfl rfl rfl ?_
      refine y_2ne (a := (vk v : Int)) (b := 6) (t := 106) (pc' := 99) dm_X9_inner_96 rfl rfl (by omega) (fun hb21 => ?_) (fun hb21 => ?_)
      · refine me0 (pc' := 107) (S' := [ii 1]) dm_X9_inner_106 rfl rfl rfl rfl ?_
        refine pg_st0 (S' := [ii ((inL v : Nat) : Int)]) (congrArg (fun z => ii z :: []) (by unfold inL; first | rw [if_pos (by omega)] | (rw [if_neg (by omega)]; rfl))) ?_
        refine me1 (pc' := 109) (L' := [(4, ii ((inL v : Nat) : Int)), (0, .ref 26), (1, .ref p), (2, .ref q), (3, ii ((inA v : Nat) : Int))]) (S' := []) dm_X9_inner_107 rfl rfl rfl rfl ?_
        exact pg_sub (L := [(0, .ref 26), (1, .ref p), (2, .ref q), (3, ii ((inA v : Nat) : Int)), (4, ii ((inL v : Nat) : Int))]) rfl rfl rfl (cut109 (by omega) (by omega) (by omega))
      · refine me1 (pc' := 100) (L' := [(0, .ref 26), (1, .ref p), (2, .ref q), (3, ii ((inA v : Nat) : Int))]) (S' := [.ref p]) dm_X9_inner_99 rfl rfl rfl rfl ?_
        refine me3 (pc' := 103) (S' := [ii (vm v : Int)]) dm_X9_inner_100 (g_get (v := ii (vm v : Int)) hp rfl rfl (by omega)) rfl rfl rfl ?_
        refine me2 (pc' := 107) (S' := [ii (vm v : Int)]) dm_X9_inner_103 rfl rfl rfl ?_
        refine pg_st0 (S' := [ii ((inL v : Nat) : Int)]) (congrArg (fun z => ii z :: []) (by unfold inL; first | rw [if_pos (by omega)] | (rw [if_neg (by omega)]; rfl))) ?_
        refine me1 (pc' := 109) (L' := [(4, ii ((inL v : Nat) : Int)), (0, .ref 26), (1, .ref p), (2, .ref q), (3, ii ((inA v : Nat) : Int))]) (S' := []) dm_X9_inner_107 rfl rfl rfl rfl ?_
        exact pg_sub (L := [(0, .ref 26), (1, .ref p), (2, .ref q), (3, ii ((inA v : Nat) : Int)), (4, ii ((inL v : Nat) : Int))]) rfl rfl rfl (cut109 (by omega) (by omega) (by omega))
    · refine me0 (pc' := 86) (S' := [ii 4]) dm_X9_inner_85 rfl rfl rfl rfl ?_
      refine x_cv (pc' := 89) (rest := []) dm_X9_inner_86 rfl (g_invs (As := [ii 4]) (S := []) rfl rfl rfl) rfl rfl rfl (c_fault (q := h.length) (by omega) (by omega) rfl (by omega)) ?_
      rintro _ _ ⟨rfl, rfl⟩
      refine y_ret (r := some (.ref h.length)) dm_X9_inner_89 rfl rfl rfl ?_
      exact ⟨_, rfl, h, scrS_rf h, hH, by rw [show d_inner v w = .inl 4 by unfold d_inner; rw [if_neg (by omega), if_neg (by omega), if_pos (by omega)]]; exact ares_f 4 (by omega) (by omega) (by omega)⟩
  have cut56 : (2 ≤ vk v ∧ vk v ≤ 6 ∧ 2 ≤ vk w ∧ vk w ≤ 6) → (¬ (vk v = 3 ∨ vk w = 3)) → pgE xt (d - 1) 9 11 false (Option.some (Jvm.ClassFile.FieldType.object "ArrayCalculator$Value")) (mj_dec prog_11_method_14_code) 56 [(0, .ref 26), (1, .ref p), (2, .ref q)] [] h (fun r h' => ∃ x, r = some x ∧ aact A h (e + 1) (d_inner v w) 2 (inL v * inC w + 9) x h') := by
    intro hrt hns
    refine me1 (pc' := 57) (L' := [(0, .ref 26), (1, .ref p), (2, .ref q)]) (S' := [.ref p]) dm_X9_inner_56 rfl rfl rfl rfl ?_
    refine me3 (pc' := 60) (S' := [ii (vk v : Int)]) dm_X9_inner_57 (g_get (v := ii (vk v : Int)) hp rfl rfl (by omega)) rfl rfl rfl ?_
    refine me0 (pc' := 62) (S' := [ii 6, ii (vk v : Int)]) dm_X9_inner_60 rfl rfl rfl rfl ?_
    refine y_2ne (a := (vk v : Int)) (b := 6) (t := 72) (pc' := 65) dm_X9_inner_62 rfl rfl (by omega) (fun hb22 => ?_) (fun hb22 => ?_)
    · refine me1 (pc' := 73) (L' := [(0, .ref 26), (1, .ref p), (2, .ref q)]) (S' := [.ref p]) dm_X9_inner_72 rfl rfl rfl rfl ?_
      refine me3 (pc' := 76) (S' := [ii (vm v : Int)]) dm_X9_inner_73 (g_get (v := ii (vm v : Int)) hp rfl rfl (by omega)) rfl rfl rfl ?_
      refine pg_st0 (S' := [ii ((inA v : Nat) : Int)]) (congrArg (fun z => ii z :: []) (by unfold inA; first | rw [if_pos (by omega)] | rw [if_neg (by omega)])) ?_
      refine me1 (pc' := 77) (L' := [(3, ii ((inA v : Nat) : Int)), (0, .ref 26), (1, .ref p), (2, .ref q)]) (S' := []) dm_X9_inner_76 rfl rfl rfl rfl ?_
      exact pg_sub (L := [(0, .ref 26), (1, .ref p), (2, .ref q), (3, ii ((inA v : Nat) : Int))]) rfl rfl rfl (cut77 (by omega) (by omega))
    · refine me1 (pc' := 66) (L' := [(0, .ref 26), (1, .ref p), (2, .ref q)]) (S' := [.ref p]) dm_X9_inner_65 rfl rfl rfl rfl ?_
      refine me3 (pc' := 69) (S' := [ii (vc v : Int)]) dm_X9_inner_66 (g_get (v := ii (vc v : Int)) hp rfl rfl (by omega)) rfl rfl rfl ?_
      refine me2 (pc' := 76) (S' := [ii (vc v : Int)]) dm_X9_inner_69 rfl rfl rfl ?_
      refine pg_st0 (S' := [ii ((inA v : Nat) : Int)]) (congrArg (fun z => ii z :: []) (by unfold inA; first | rw [if_pos (by omega)] | rw [if_neg (by omega)])) ?_
      refine me1 (pc' := 77) (L' := [(3, ii ((inA v : Nat) : Int)), (0, .ref 26), (1, .ref p), (2, .ref q)]) (S' := []) dm_X9_inner_76 rfl rfl rfl rfl ?_
      exact pg_sub (L := [(0, .ref 26), (1, .ref p), (2, .ref q), (3, ii ((inA v : Nat) : Int))]) rfl rfl rfl (cut77 (by omega) (by omega))
  have cut37 : (2 ≤ vk v ∧ vk v ≤ 6 ∧ 2 ≤ vk w ∧ vk w ≤ 6) → pgE xt (d - 1) 9 11 false (Option.some (Jvm.ClassFile.FieldType.object "ArrayCalculator$Value")) (mj_dec prog_11_method_14_code) 37 [(0, .ref 26), (1, .ref p), (2, .ref q)] [] h (fun r h' => ∃ x, r = some x ∧ aact A h (e + 1) (d_inner v w) 2 (inL v * inC w + 9) x h') := by
    intro hrt
    refine me1 (pc' := 38) (L' := [(0, .ref 26), (1, .ref p), (2, .ref q)]) (S' := [.ref p]) dm_X9_inner_37 rfl rfl rfl rfl ?_
    refine x_cp (pc' := 41) (v := zz (decide (vk v = 1 ∨ vk v = 3))) (rest := []) dm_X9_inner_38 rfl (g_inv (As := []) (S := []) hp rfl rfl rfl (by omega)) rfl rfl rfl (c_ofSigns (by omega) hv) ?_
    refine y_zne (c := decide (vk v = 1 ∨ vk v = 3)) (t := 51) (pc' := 44) dm_X9_inner_41 rfl rfl (fun hb23 => ?_) (fun hb23 => ?_)
    · replace hb23 := dT hb23
      refine me0 (pc' := 52) (S' := [ii 5]) dm_X9_inner_51 rfl rfl rfl rfl ?_
      refine x_cv (pc' := 55) (rest := []) dm_X9_inner_52 rfl (g_invs (As := [ii 5]) (S := []) rfl rfl rfl) rfl rfl rfl (c_fault (q := h.length) (by omega) (by omega) rfl (by omega)) ?_
      rintro _ _ ⟨rfl, rfl⟩
      refine y_ret (r := some (.ref h.length)) dm_X9_inner_55 rfl rfl rfl ?_
      exact ⟨_, rfl, h, scrS_rf h, hH, by rw [show d_inner v w = .inl 5 by unfold d_inner; rw [if_neg (by omega), if_pos (by omega)]]; exact ares_f 5 (by omega) (by omega) (by omega)⟩
    · replace hb23 := dF hb23
      refine me1 (pc' := 45) (L' := [(0, .ref 26), (1, .ref p), (2, .ref q)]) (S' := [.ref q]) dm_X9_inner_44 rfl rfl rfl rfl ?_
      refine x_cp (pc' := 48) (v := zz (decide (vk w = 1 ∨ vk w = 3))) (rest := []) dm_X9_inner_45 rfl (g_inv (As := []) (S := []) hq rfl rfl rfl (by omega)) rfl rfl rfl (c_ofSigns (by omega) hw) ?_
      refine y_zeq (c := decide (vk w = 1 ∨ vk w = 3)) (t := 56) (pc' := 51) dm_X9_inner_48 rfl rfl (fun hb24 => ?_) (fun hb24 => ?_)
      · replace hb24 := dF hb24
        exact pg_sub (L := [(0, .ref 26), (1, .ref p), (2, .ref q)]) rfl rfl rfl (cut56 (by omega) (by omega))
      · replace hb24 := dT hb24
        refine me0 (pc' := 52) (S' := [ii 5]) dm_X9_inner_51 rfl rfl rfl rfl ?_
        refine x_cv (pc' := 55) (rest := []) dm_X9_inner_52 rfl (g_invs (As := [ii 5]) (S := []) rfl rfl rfl) rfl rfl rfl (c_fault (q := h.length) (by omega) (by omega) rfl (by omega)) ?_
        rintro _ _ ⟨rfl, rfl⟩
        refine y_ret (r := some (.ref h.length)) dm_X9_inner_55 rfl rfl rfl ?_
        exact ⟨_, rfl, h, scrS_rf h, hH, by rw [show d_inner v w = .inl 5 by unfold d_inner; rw [if_neg (by omega), if_pos (by omega)]]; exact ares_f 5 (by omega) (by omega) (by omega)⟩
  refine me1 (pc' := 1) (L' := [(0, .ref 26), (1, .ref p), (2, .ref q)]) (S' := [.ref p]) dm_X9_inner_0 rfl rfl rfl rfl ?_
  refine x_cp (pc' := 4) (v := zz (decide (2 ≤ vk v ∧ vk v ≤ 5))) (rest := []) dm_X9_inner_1 rfl (g_inv (As := []) (S := []) hp rfl rfl rfl (by omega)) rfl rfl rfl (c_isRow (by omega) hv) ?_
  refine y_zne (c := decide (2 ≤ vk v ∧ vk v ≤ 5)) (t := 16) (pc' := 7) dm_X9_inner_4 rfl rfl (fun hb25 => ?_) (fun hb25 => ?_)
  · replace hb25 := dT hb25
    refine me1 (pc' := 17) (L' := [(0, .ref 26), (1, .ref p), (2, .ref q)]) (S' := [.ref q]) dm_X9_inner_16 rfl rfl rfl rfl ?_
    refine x_cp (pc' := 20) (v := zz (decide (2 ≤ vk w ∧ vk w ≤ 5))) (rest := []) dm_X9_inner_17 rfl (g_inv (As := []) (S := []) hq rfl rfl rfl (by omega)) rfl rfl rfl (c_isRow (by omega) hw) ?_
    refine y_zne (c := decide (2 ≤ vk w ∧ vk w ≤ 5)) (t := 37) (pc' := 23) dm_X9_inner_20 rfl rfl (fun hb26 => ?_) (fun hb26 => ?_)
    · replace hb26 := dT hb26
      exact pg_sub (L := [(0, .ref 26), (1, .ref p), (2, .ref q)]) rfl rfl rfl (cut37 (by omega))
    · replace hb26 := dF hb26
      refine me1 (pc' := 24) (L' := [(0, .ref 26), (1, .ref p), (2, .ref q)]) (S' := [.ref q]) dm_X9_inner_23 rfl rfl rfl rfl ?_
      refine me3 (pc' := 27) (S' := [ii (vk w : Int)]) dm_X9_inner_24 (g_get (v := ii (vk w : Int)) hq rfl rfl (by omega)) rfl rfl rfl ?_
      refine me0 (pc' := 29) (S' := [ii 6, ii (vk w : Int)]) dm_X9_inner_27 rfl rfl rfl rfl ?_
      refine y_2eq (a := (vk w : Int)) (b := 6) (t := 37) (pc' := 32) dm_X9_inner_29 rfl rfl (by omega) (fun hb27 => ?_) (fun hb27 => ?_)
      · exact pg_sub (L := [(0, .ref 26), (1, .ref p), (2, .ref q)]) rfl rfl rfl (cut37 (by omega))
      · refine me0 (pc' := 33) (S' := [ii 3]) dm_X9_inner_32 rfl rfl rfl rfl ?_
        refine x_cv (pc' := 36) (rest := []) dm_X9_inner_33 rfl (g_invs (As := [ii 3]) (S := []) rfl rfl rfl) rfl rfl rfl (c_fault (q := h.length) (by omega) (by omega) rfl (by omega)) ?_
        rintro _ _ ⟨rfl, rfl⟩
        refine y_ret (r := some (.ref h.length)) dm_X9_inner_36 rfl rfl rfl ?_
        exact ⟨_, rfl, h, scrS_rf h, hH, by rw [show d_inner v w = .inl 3 by unfold d_inner; rw [if_pos (by omega)]]; exact ares_f 3 (by omega) (by omega) (by omega)⟩
  · replace hb25 := dF hb25
    refine me1 (pc' := 8) (L' := [(0, .ref 26), (1, .ref p), (2, .ref q)]) (S' := [.ref p]) dm_X9_inner_7 rfl rfl rfl rfl ?_
    refine me3 (pc' := 11) (S' := [ii (vk v : Int)]) dm_X9_inner_8 (g_get (v := ii (vk v : Int)) hp rfl rfl (by omega)) rfl rfl rfl ?_
    refine me0 (pc' := 13) (S' := [ii 6, ii (vk v : Int)]) dm_X9_inner_11 rfl rfl rfl rfl ?_
    refine y_2ne (a := (vk v : Int)) (b := 6) (t := 32) (pc' := 16) dm_X9_inner_13 rfl rfl (by omega) (fun hb28 => ?_) (fun hb28 => ?_)
    · refine me0 (pc' := 33) (S' := [ii 3]) dm_X9_inner_32 rfl rfl rfl rfl ?_
      refine x_cv (pc' := 36) (rest := []) dm_X9_inner_33 rfl (g_invs (As := [ii 3]) (S := []) rfl rfl rfl) rfl rfl rfl (c_fault (q := h.length) (by omega) (by omega) rfl (by omega)) ?_
      rintro _ _ ⟨rfl, rfl⟩
      refine y_ret (r := some (.ref h.length)) dm_X9_inner_36 rfl rfl rfl ?_
      exact ⟨_, rfl, h, scrS_rf h, hH, by rw [show d_inner v w = .inl 3 by unfold d_inner; rw [if_pos (by omega)]]; exact ares_f 3 (by omega) (by omega) (by omega)⟩
    · refine me1 (pc' := 17) (L' := [(0, .ref 26), (1, .ref p), (2, .ref q)]) (S' := [.ref q]) dm_X9_inner_16 rfl rfl rfl rfl ?_
      refine x_cp (pc' := 20) (v := zz (decide (2 ≤ vk w ∧ vk w ≤ 5))) (rest := []) dm_X9_inner_17 rfl (g_inv (As := []) (S := []) hq rfl rfl rfl (by omega)) rfl rfl rfl (c_isRow (by omega) hw) ?_
      refine y_zne (c := decide (2 ≤ vk w ∧ vk w ≤ 5)) (t := 37) (pc' := 23) dm_X9_inner_20 rfl rfl (fun hb29 => ?_) (fun hb29 => ?_)
      · replace hb29 := dT hb29
        exact pg_sub (L := [(0, .ref 26), (1, .ref p), (2, .ref q)]) rfl rfl rfl (cut37 (by omega))
      · replace hb29 := dF hb29
        refine me1 (pc' := 24) (L' := [(0, .ref 26), (1, .ref p), (2, .ref q)]) (S' := [.ref q]) dm_X9_inner_23 rfl rfl rfl rfl ?_
        refine me3 (pc' := 27) (S' := [ii (vk w : Int)]) dm_X9_inner_24 (g_get (v := ii (vk w : Int)) hq rfl rfl (by omega)) rfl rfl rfl ?_
        refine me0 (pc' := 29) (S' := [ii 6, ii (vk w : Int)]) dm_X9_inner_27 rfl rfl rfl rfl ?_
        refine y_2eq (a := (vk w : Int)) (b := 6) (t := 37) (pc' := 32) dm_X9_inner_29 rfl rfl (by omega) (fun hb30 => ?_) (fun hb30 => ?_)
        · exact pg_sub (L := [(0, .ref 26), (1, .ref p), (2, .ref q)]) rfl rfl rfl (cut37 (by omega))
        · refine me0 (pc' := 33) (S' := [ii 3]) dm_X9_inner_32 rfl rfl rfl rfl ?_
          refine x_cv (pc' := 36) (rest := []) dm_X9_inner_33 rfl (g_invs (As := [ii 3]) (S := []) rfl rfl rfl) rfl rfl rfl (c_fault (q := h.length) (by omega) (by omega) rfl (by omega)) ?_
          rintro _ _ ⟨rfl, rfl⟩
          refine y_ret (r := some (.ref h.length)) dm_X9_inner_36 rfl rfl rfl ?_
          exact ⟨_, rfl, h, scrS_rf h, hH, by rw [show d_inner v w = .inl 3 by unfold d_inner; rw [if_pos (by omega)]]; exact ares_f 3 (by omega) (by omega) (by omega)⟩
