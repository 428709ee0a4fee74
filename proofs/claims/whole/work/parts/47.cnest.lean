theorem vlv_le (d : Nat) : ∀ v : VV, vlv d v ≤ d + 1 := by
  induction d with
  | zero => intro v; exact Nat.zero_le _
  | succ d ih =>
    intro v
    show (if vk v ≤ 1 then 0 else if vk v = 6 then 2 else if vk v = 7 then 1 + maxN (vm v) (fun k => vlv d (vd v k)) else 1) ≤ d + 1 + 1
    have := maxN_le (n := vm v) (f := fun k => vlv d (vd v k)) (b := d + 1) (fun k _ => ih _)
    split
    · omega
    · split
      · omega
      · split <;> omega
theorem sumN_mono {k m : Nat} (f : Nat → Nat) (h : k ≤ m) : sumN k f ≤ sumN m f := by
  induction m with
  | zero => rw [Nat.le_zero.mp h]; exact Nat.le_refl _
  | succ m ih =>
    by_cases z : k = m + 1
    · rw [z]; exact Nat.le_refl _
    · have := ih (by omega)
      show sumN k f ≤ sumN m f + f m
      omega
theorem sumN_bd {n b : Nat} {f : Nat → Nat} (h : ∀ k, k < n → f k ≤ b) : sumN n f ≤ n * b := by
  induction n with
  | zero => exact Nat.zero_le _
  | succ n ih =>
    have e1 := ih (fun k hk => h k (by omega))
    have e2 := h n (by omega)
    show sumN n f + f n ≤ _
    rw [Nat.add_mul, Nat.one_mul]
    omega
theorem cv_valE {A : Nat → Prop} {h : mj_H} {e p : Nat} {v : VV} (hv : cv A h e p v) : ∃ (row fr : Nat) (vals : Value), h[p]? = some (cO 10 [ii (vk v : Int), .long (cnum v), .ref row, vals, ii (fr : Int), ii (vm v : Int), ii (vc v : Int), ii (vsz e v : Int), ii (vlv e v : Int)]) ∧ 2 ≤ p ∧ A p ∧ vk v ≤ 7 ∧ vm v ≤ 120 ∧ vc v ≤ 12 ∧ vsz e v ≤ 30000 ∧ vlv e v ≤ 30 := by
  cases e with
  | zero => exact hv.elim
  | succ e => exact cv_val hv
abbrev cNest (a : Value) (fr m sz lv : Int) : mj_E := cO 10 [ii 7, .long (Int64.ofInt 0), .ref 1, a, ii fr, ii m, ii 0, ii sz, ii lv]
theorem vw1_nest {m : Nat} {ch : Nat → VV} (h : m ≤ 24) : vw1 (vnest m ch) := by
  refine ⟨?_, ?_, ?_, ?_, ?_, ?_⟩
  · show 7 ≤ 7; omega
  · intro (z : 7 ≤ 1); omega
  · intro _ (z : 7 ≤ 5); omega
  · intro (z : 7 = 6); omega
  · intro _; exact ⟨h, rfl⟩
  · intro (z : 7 = 2); omega
theorem vsz_nest (e m : Nat) (ch : Nat → VV) : vsz (e + 1) (vnest m ch) = 1 + sumN m (fun k => vsz e (ch k)) := rfl
theorem vlv_nest (e m : Nat) (ch : Nat → VV) : vlv (e + 1) (vnest m ch) = 1 + maxN m (fun k => vlv e (ch k)) := rfl
theorem cv_nest {A : Nat → Prop} {h : mj_H} {e p a n fr m : Nat} {g : Nat → Option Nat} {ch : Nat → VV} (hm : m ≤ 24) (hp2 : 2 ≤ p) (hA : A p) (he : e ≤ 20) (hS : sumN m (fun k => vsz e (ch k)) ≤ 29999) (hg : h[p]? = some (cNest (.ref a) (fr : Int) (m : Int) ((1 + sumN m (fun k => vsz e (ch k)) : Nat) : Int) ((1 + maxN m (fun k => vlv e (ch k)) : Nat) : Int))) (hfr : fr ≤ 1000) (ha : h[a]? = some (cA 4 n g)) (ha2 : 2 ≤ a) (haA : A a) (hn : n ≤ 1000) (hb : fr + m ≤ n) (hq : ∀ k, k < m → ∃ q, g (fr + k) = some q ∧ cv A h e q (ch k)) : cv A h (e + 1) p (vnest m ch) := by
  have := maxN_le (n := m) (f := fun k => vlv e (ch k)) (b := e + 1) (fun k _ => vlv_le e _)
  refine ⟨vw1_nest hm, ⟨hp2, hA⟩, by rw [vsz_nest]; omega, by rw [vlv_nest]; omega, 1, fr, .ref a, hg, hfr, fun (z : 7 ≤ 1) => by omega, fun _ (z : 7 ≤ 6) => by omega, fun _ => ⟨rfl, Or.inr ⟨a, n, g, rfl, ha2, ha, haA, hn, hb, hq⟩⟩⟩
theorem cv_nest0 {A : Nat → Prop} {h : mj_H} {e p fr : Nat} {ch : Nat → VV} (hp2 : 2 ≤ p) (hA : A p) (hg : h[p]? = some (cNest .null (fr : Int) 0 1 1)) (hfr : fr ≤ 1000) : cv A h (e + 1) p (vnest 0 ch) :=
  ⟨vw1_nest (by omega), ⟨hp2, hA⟩, by rw [vsz_nest]; show 1 + 0 ≤ 30000; omega, by rw [vlv_nest]; show 1 + 0 ≤ 30; omega, 1, fr, .null, hg, hfr, fun (z : 7 ≤ 1) => by omega, fun _ (z : 7 ≤ 6) => by omega, fun _ => ⟨rfl, Or.inl ⟨rfl, rfl⟩⟩⟩
set_option maxRecDepth 20000 in
theorem pm_X10_init_ : mj_mmof pg_ms 110 = some ((⟨"ArrayCalculator$Value", "<init>", "([LArrayCalculator$Value;II)V"⟩, prog_12_method_2_code, 7, (Option.none : Option Jvm.ClassFile.FieldType)), 10, true, mj_dec prog_12_method_2_code) := rfl
theorem dm_X10_init__0 : mj_dec prog_12_method_2_code 0 = some (.aload_n 0, 1) := by decide +kernel
theorem dm_X10_init__1 : mj_dec prog_12_method_2_code 1 = some (.invokespecial 3, 3) := by decide +kernel
theorem dm_X10_init__4 : mj_dec prog_12_method_2_code 4 = some (.aload_n 0, 1) := by decide +kernel
theorem dm_X10_init__5 : mj_dec prog_12_method_2_code 5 = some (.bipush 7, 2) := by decide +kernel
theorem dm_X10_init__7 : mj_dec prog_12_method_2_code 7 = some (.putfield 9, 3) := by decide +kernel
theorem dm_X10_init__10 : mj_dec prog_12_method_2_code 10 = some (.aload_n 0, 1) := by decide +kernel
theorem dm_X10_init__11 : mj_dec prog_12_method_2_code 11 = some (.lconst 0, 1) := by decide +kernel
theorem dm_X10_init__12 : mj_dec prog_12_method_2_code 12 = some (.putfield 15, 3) := by decide +kernel
theorem dm_X10_init__15 : mj_dec prog_12_method_2_code 15 = some (.aload_n 0, 1) := by decide +kernel
theorem dm_X10_init__16 : mj_dec prog_12_method_2_code 16 = some (.getstatic 42, 3) := by decide +kernel
theorem dm_X10_init__19 : mj_dec prog_12_method_2_code 19 = some (.putfield 19, 3) := by decide +kernel
theorem dm_X10_init__22 : mj_dec prog_12_method_2_code 22 = some (.aload_n 0, 1) := by decide +kernel
theorem dm_X10_init__23 : mj_dec prog_12_method_2_code 23 = some (.aload_n 1, 1) := by decide +kernel
theorem dm_X10_init__24 : mj_dec prog_12_method_2_code 24 = some (.putfield 23, 3) := by decide +kernel
theorem dm_X10_init__27 : mj_dec prog_12_method_2_code 27 = some (.aload_n 0, 1) := by decide +kernel
theorem dm_X10_init__28 : mj_dec prog_12_method_2_code 28 = some (.iload_n 2, 1) := by decide +kernel
theorem dm_X10_init__29 : mj_dec prog_12_method_2_code 29 = some (.putfield 27, 3) := by decide +kernel
theorem dm_X10_init__32 : mj_dec prog_12_method_2_code 32 = some (.aload_n 0, 1) := by decide +kernel
theorem dm_X10_init__33 : mj_dec prog_12_method_2_code 33 = some (.iload_n 3, 1) := by decide +kernel
theorem dm_X10_init__34 : mj_dec prog_12_method_2_code 34 = some (.putfield 30, 3) := by decide +kernel
theorem dm_X10_init__37 : mj_dec prog_12_method_2_code 37 = some (.aload_n 0, 1) := by decide +kernel
theorem dm_X10_init__38 : mj_dec prog_12_method_2_code 38 = some (.iconst 0, 1) := by decide +kernel
theorem dm_X10_init__39 : mj_dec prog_12_method_2_code 39 = some (.putfield 33, 3) := by decide +kernel
theorem dm_X10_init__42 : mj_dec prog_12_method_2_code 42 = some (.iconst 1, 1) := by decide +kernel
theorem dm_X10_init__43 : mj_dec prog_12_method_2_code 43 = some (.istore 4, 2) := by decide +kernel
theorem dm_X10_init__45 : mj_dec prog_12_method_2_code 45 = some (.iconst 0, 1) := by decide +kernel
theorem dm_X10_init__46 : mj_dec prog_12_method_2_code 46 = some (.istore 5, 2) := by decide +kernel
theorem dm_X10_init__48 : mj_dec prog_12_method_2_code 48 = some (.iload_n 2, 1) := by decide +kernel
theorem dm_X10_init__49 : mj_dec prog_12_method_2_code 49 = some (.istore 6, 2) := by decide +kernel
theorem dm_X10_init__51 : mj_dec prog_12_method_2_code 51 = some (.aload_n 1, 1) := by decide +kernel
theorem dm_X10_init__52 : mj_dec prog_12_method_2_code 52 = some (.ifnull 62, 3) := by decide +kernel
theorem dm_X10_init__55 : mj_dec prog_12_method_2_code 55 = some (.iload 6, 2) := by decide +kernel
theorem dm_X10_init__57 : mj_dec prog_12_method_2_code 57 = some (.iload_n 2, 1) := by decide +kernel
theorem dm_X10_init__58 : mj_dec prog_12_method_2_code 58 = some (.iload_n 3, 1) := by decide +kernel
theorem dm_X10_init__59 : mj_dec prog_12_method_2_code 59 = some (.iadd, 1) := by decide +kernel
theorem dm_X10_init__60 : mj_dec prog_12_method_2_code 60 = some (.if_icmp .ge 54, 3) := by decide +kernel
theorem dm_X10_init__63 : mj_dec prog_12_method_2_code 63 = some (.iload 6, 2) := by decide +kernel
theorem dm_X10_init__65 : mj_dec prog_12_method_2_code 65 = some (.aload_n 1, 1) := by decide +kernel
theorem dm_X10_init__66 : mj_dec prog_12_method_2_code 66 = some (.arraylength, 1) := by decide +kernel
theorem dm_X10_init__67 : mj_dec prog_12_method_2_code 67 = some (.if_icmp .ge 47, 3) := by decide +kernel
theorem dm_X10_init__70 : mj_dec prog_12_method_2_code 70 = some (.iload 4, 2) := by decide +kernel
theorem dm_X10_init__72 : mj_dec prog_12_method_2_code 72 = some (.aload_n 1, 1) := by decide +kernel
theorem dm_X10_init__73 : mj_dec prog_12_method_2_code 73 = some (.iload 6, 2) := by decide +kernel
theorem dm_X10_init__75 : mj_dec prog_12_method_2_code 75 = some (.aaload, 1) := by decide +kernel
theorem dm_X10_init__76 : mj_dec prog_12_method_2_code 76 = some (.getfield 36, 3) := by decide +kernel
theorem dm_X10_init__79 : mj_dec prog_12_method_2_code 79 = some (.iadd, 1) := by decide +kernel
theorem dm_X10_init__80 : mj_dec prog_12_method_2_code 80 = some (.istore 4, 2) := by decide +kernel
theorem dm_X10_init__82 : mj_dec prog_12_method_2_code 82 = some (.aload_n 1, 1) := by decide +kernel
theorem dm_X10_init__83 : mj_dec prog_12_method_2_code 83 = some (.iload 6, 2) := by decide +kernel
theorem dm_X10_init__85 : mj_dec prog_12_method_2_code 85 = some (.aaload, 1) := by decide +kernel
theorem dm_X10_init__86 : mj_dec prog_12_method_2_code 86 = some (.getfield 39, 3) := by decide +kernel
theorem dm_X10_init__89 : mj_dec prog_12_method_2_code 89 = some (.iload 5, 2) := by decide +kernel
theorem dm_X10_init__91 : mj_dec prog_12_method_2_code 91 = some (.if_icmp .le 13, 3) := by decide +kernel
theorem dm_X10_init__94 : mj_dec prog_12_method_2_code 94 = some (.aload_n 1, 1) := by decide +kernel
theorem dm_X10_init__95 : mj_dec prog_12_method_2_code 95 = some (.iload 6, 2) := by decide +kernel
theorem dm_X10_init__97 : mj_dec prog_12_method_2_code 97 = some (.aaload, 1) := by decide +kernel
theorem dm_X10_init__98 : mj_dec prog_12_method_2_code 98 = some (.getfield 39, 3) := by decide +kernel
theorem dm_X10_init__101 : mj_dec prog_12_method_2_code 101 = some (.goto 5, 3) := by decide +kernel
theorem dm_X10_init__104 : mj_dec prog_12_method_2_code 104 = some (.iload 5, 2) := by decide +kernel
theorem dm_X10_init__106 : mj_dec prog_12_method_2_code 106 = some (.istore 5, 2) := by decide +kernel
theorem dm_X10_init__108 : mj_dec prog_12_method_2_code 108 = some (.iinc 6 1, 3) := by decide +kernel
theorem dm_X10_init__111 : mj_dec prog_12_method_2_code 111 = some (.goto (-60), 3) := by decide +kernel
theorem dm_X10_init__114 : mj_dec prog_12_method_2_code 114 = some (.aload_n 0, 1) := by decide +kernel
theorem dm_X10_init__115 : mj_dec prog_12_method_2_code 115 = some (.iload 4, 2) := by decide +kernel
theorem dm_X10_init__117 : mj_dec prog_12_method_2_code 117 = some (.putfield 36, 3) := by decide +kernel
theorem dm_X10_init__120 : mj_dec prog_12_method_2_code 120 = some (.aload_n 0, 1) := by decide +kernel
theorem dm_X10_init__121 : mj_dec prog_12_method_2_code 121 = some (.iload 5, 2) := by decide +kernel
theorem dm_X10_init__123 : mj_dec prog_12_method_2_code 123 = some (.iconst 1, 1) := by decide +kernel
theorem dm_X10_init__124 : mj_dec prog_12_method_2_code 124 = some (.iadd, 1) := by decide +kernel
theorem dm_X10_init__125 : mj_dec prog_12_method_2_code 125 = some (.putfield 39, 3) := by decide +kernel
theorem dm_X10_init__128 : mj_dec prog_12_method_2_code 128 = some (.return_, 1) := by decide +kernel
theorem c_newN {xt : mj_X} {d e p a n fr m : Nat} {A : Nat → Prop} {h H : mj_H} {g : Nat → Option Nat} {ch : Nat → VV} (hd : 2 ≤ d) (hp : h[p]? = some c0V) (hp2 : 2 ≤ p) (hpA : ¬ A p) (ha : h[a]? = some (cA 4 n g)) (ha2 : 2 ≤ a) (hap : a ≠ p) (hfr : fr ≤ 1000) (hm : m ≤ 1000) (hn : n ≤ 1000) (hb : fr + m ≤ n) (he : e ≤ 20) (hS : sumN m (fun k => vsz e (ch k)) ≤ 29999) (hq : ∀ k, k < m → ∃ q, g (fr + k) = some q ∧ cv A h e q (ch k)) (hH : h.set p (cNest (.ref a) (fr : Int) (m : Int) ((1 + sumN m (fun k => vsz e (ch k)) : Nat) : Int) ((1 + maxN m (fun k => vlv e (ch k)) : Nat) : Int)) = H) : pgN xt d 110 [.ref p, .ref a, ii (fr : Int), ii (m : Int)] h (fun h' => h' = H) := by
  refine x_enter pm_X10_init_ (L0 := [(0, .ref p), (1, .ref a), (2, ii (fr : Int)), (3, ii (m : Int))]) rfl (Nat.le_of_ble_eq_true rfl) (by omega) ?_
  refine me1 (pc' := 1) (L' := [(0, .ref p), (1, .ref a), (2, ii (fr : Int)), (3, ii (m : Int))]) (S' := [.ref p]) dm_X10_init__0 rfl rfl rfl rfl ?_
  refine me4o (pc' := 4) (rest := []) dm_X10_init__1 rfl rfl (by omega) rfl rfl rfl ?_
  refine me1 (pc' := 5) (L' := [(0, .ref p), (1, .ref a), (2, ii (fr : Int)), (3, ii (m : Int))]) (S' := [.ref p]) dm_X10_init__4 rfl rfl rfl rfl ?_
  refine me0 (pc' := 7) (S' := [ii 7, .ref p]) dm_X10_init__5 rfl rfl rfl rfl ?_
  refine me3 (pc' := 10) (S' := []) (h1 := (h).set p (cO 10 [ii 7, .long (Int64.ofInt 0), .null, .null, ii 0, ii 0, ii 0, ii 0, ii 0])) dm_X10_init__7 (g_put (fs' := [ii 7, .long (Int64.ofInt 0), .null, .null, ii 0, ii 0, ii 0, ii 0, ii 0]) hp rfl rfl rfl (by simp) rfl (by decide) (fun _ => rfl) (by omega)) rfl rfl rfl ?_
  refine me1 (pc' := 11) (L' := [(0, .ref p), (1, .ref a), (2, ii (fr : Int)), (3, ii (m : Int))]) (S' := [.ref p]) dm_X10_init__10 rfl rfl rfl rfl ?_
  refine me0 (pc' := 12) (S' := [.long (Int64.ofInt 0), .ref p]) dm_X10_init__11 rfl rfl rfl rfl ?_
  refine me3 (pc' := 15) (S' := []) (h1 := (h).set p (cO 10 [ii 7, .long (Int64.ofInt 0), .null, .null, ii 0, ii 0, ii 0, ii 0, ii 0])) dm_X10_init__12 (g_put (fs' := [ii 7, .long (Int64.ofInt 0), .null, .null, ii 0, ii 0, ii 0, ii 0, ii 0]) (hl_set (hl_lt hp)) rfl (by rw [List.set_set]) rfl (by simp) rfl (by decide) (fun _ => rfl) (by omega)) rfl rfl rfl ?_
  refine me1 (pc' := 16) (L' := [(0, .ref p), (1, .ref a), (2, ii (fr : Int)), (3, ii (m : Int))]) (S' := [.ref p]) dm_X10_init__15 rfl rfl rfl rfl ?_
  refine me3 (pc' := 19) (S' := [.ref 1, .ref p]) dm_X10_init__16 rfl rfl rfl rfl ?_
  refine me3 (pc' := 22) (S' := []) (h1 := (h).set p (cO 10 [ii 7, .long (Int64.ofInt 0), .ref 1, .null, ii 0, ii 0, ii 0, ii 0, ii 0])) dm_X10_init__19 (g_put (fs' := [ii 7, .long (Int64.ofInt 0), .ref 1, .null, ii 0, ii 0, ii 0, ii 0, ii 0]) (hl_set (hl_lt hp)) rfl (by rw [List.set_set]) rfl (by simp) rfl (by decide) (fun _ => rfl) (by omega)) rfl rfl rfl ?_
  refine me1 (pc' := 23) (L' := [(0, .ref p), (1, .ref a), (2, ii (fr : Int)), (3, ii (m : Int))]) (S' := [.ref p]) dm_X10_init__22 rfl rfl rfl rfl ?_
  refine me1 (pc' := 24) (L' := [(0, .ref p), (1, .ref a), (2, ii (fr : Int)), (3, ii (m : Int))]) (S' := [.ref a, .ref p]) dm_X10_init__23 rfl rfl rfl rfl ?_
  refine me3 (pc' := 27) (S' := []) (h1 := (h).set p (cO 10 [ii 7, .long (Int64.ofInt 0), .ref 1, .ref a, ii 0, ii 0, ii 0, ii 0, ii 0])) dm_X10_init__24 (g_put (fs' := [ii 7, .long (Int64.ofInt 0), .ref 1, .ref a, ii 0, ii 0, ii 0, ii 0, ii 0]) (hl_set (hl_lt hp)) rfl (by rw [List.set_set]) rfl (by simp) rfl (by decide) (fun _ => rfl) (by omega)) rfl rfl rfl ?_
  refine me1 (pc' := 28) (L' := [(0, .ref p), (1, .ref a), (2, ii (fr : Int)), (3, ii (m : Int))]) (S' := [.ref p]) dm_X10_init__27 rfl rfl rfl rfl ?_
  refine me1 (pc' := 29) (L' := [(0, .ref p), (1, .ref a), (2, ii (fr : Int)), (3, ii (m : Int))]) (S' := [ii (fr : Int), .ref p]) dm_X10_init__28 rfl rfl rfl rfl ?_
  refine me3 (pc' := 32) (S' := []) (h1 := (h).set p (cO 10 [ii 7, .long (Int64.ofInt 0), .ref 1, .ref a, ii (fr : Int), ii 0, ii 0, ii 0, ii 0])) dm_X10_init__29 (g_put (fs' := [ii 7, .long (Int64.ofInt 0), .ref 1, .ref a, ii (fr : Int), ii 0, ii 0, ii 0, ii 0]) (hl_set (hl_lt hp)) rfl (by rw [List.set_set]) rfl (by simp) rfl (by decide) (fun _ => rfl) (by omega)) rfl rfl rfl ?_
  refine me1 (pc' := 33) (L' := [(0, .ref p), (1, .ref a), (2, ii (fr : Int)), (3, ii (m : Int))]) (S' := [.ref p]) dm_X10_init__32 rfl rfl rfl rfl ?_
  refine me1 (pc' := 34) (L' := [(0, .ref p), (1, .ref a), (2, ii (fr : Int)), (3, ii (m : Int))]) (S' := [ii (m : Int), .ref p]) dm_X10_init__33 rfl rfl rfl rfl ?_
  refine me3 (pc' := 37) (S' := []) (h1 := (h).set p (cO 10 [ii 7, .long (Int64.ofInt 0), .ref 1, .ref a, ii (fr : Int), ii (m : Int), ii 0, ii 0, ii 0])) dm_X10_init__34 (g_put (fs' := [ii 7, .long (Int64.ofInt 0), .ref 1, .ref a, ii (fr : Int), ii (m : Int), ii 0, ii 0, ii 0]) (hl_set (hl_lt hp)) rfl (by rw [List.set_set]) rfl (by simp) rfl (by decide) (fun _ => rfl) (by omega)) rfl rfl rfl ?_
  refine me1 (pc' := 38) (L' := [(0, .ref p), (1, .ref a), (2, ii (fr : Int)), (3, ii (m : Int))]) (S' := [.ref p]) dm_X10_init__37 rfl rfl rfl rfl ?_
  refine me0 (pc' := 39) (S' := [ii 0, .ref p]) dm_X10_init__38 rfl rfl rfl rfl ?_
  refine me3 (pc' := 42) (S' := []) (h1 := (h).set p (cO 10 [ii 7, .long (Int64.ofInt 0), .ref 1, .ref a, ii (fr : Int), ii (m : Int), ii 0, ii 0, ii 0])) dm_X10_init__39 (g_put (fs' := [ii 7, .long (Int64.ofInt 0), .ref 1, .ref a, ii (fr : Int), ii (m : Int), ii 0, ii 0, ii 0]) (hl_set (hl_lt hp)) rfl (by rw [List.set_set]) rfl (by simp) rfl (by decide) (fun _ => rfl) (by omega)) rfl rfl rfl ?_
  refine me0 (pc' := 43) (S' := [ii 1]) dm_X10_init__42 rfl rfl rfl rfl ?_
  refine me1 (pc' := 45) (L' := [(4, ii 1), (0, .ref p), (1, .ref a), (2, ii (fr : Int)), (3, ii (m : Int))]) (S' := []) dm_X10_init__43 rfl rfl rfl rfl ?_
  refine me0 (pc' := 46) (S' := [ii 0]) dm_X10_init__45 rfl rfl rfl rfl ?_
  refine me1 (pc' := 48) (L' := [(5, ii 0), (4, ii 1), (0, .ref p), (1, .ref a), (2, ii (fr : Int)), (3, ii (m : Int))]) (S' := []) dm_X10_init__46 rfl rfl rfl rfl ?_
  refine me1 (pc' := 49) (L' := [(5, ii 0), (4, ii 1), (0, .ref p), (1, .ref a), (2, ii (fr : Int)), (3, ii (m : Int))]) (S' := [ii (fr : Int)]) dm_X10_init__48 rfl rfl rfl rfl ?_
  refine me1 (pc' := 51) (L' := [(6, ii (fr : Int)), (5, ii 0), (4, ii 1), (0, .ref p), (1, .ref a), (2, ii (fr : Int)), (3, ii (m : Int))]) (S' := []) dm_X10_init__49 rfl rfl rfl rfl ?_
  have lp51 : ∀ (n51 : Nat) (k : Nat) (s : Nat) (l : Nat), m - k = n51 → (k ≤ m) → (s = 1 + sumN k (fun k => vsz e (ch k))) → (l = maxN k (fun k => vlv e (ch k))) → pgE xt (d - 1) 10 7 true (Option.none : Option Jvm.ClassFile.FieldType) (mj_dec prog_12_method_2_code) 51 [(0, .ref p), (1, .ref a), (2, ii (fr : Int)), (3, ii (m : Int)), (4, ii (s : Int)), (5, ii (l : Int)), (6, ii ((fr : Int) + (k : Int)))] [] ((h).set p (cO 10 [ii 7, .long (Int64.ofInt 0), .ref 1, .ref a, ii (fr : Int), ii (m : Int), ii 0, ii 0, ii 0])) (fun r h' => r = none ∧ h' = H) := by
    intro n51
    induction n51 using Nat.strongRecOn with
    | ind n51 ih51 =>
      intro k s l hm51 hk hs hlv
      have hsm := sumN_mono (fun k => vsz e (ch k)) hk
      have hlm := maxN_le (n := k) (f := fun k => vlv e (ch k)) (b := e + 1) (fun j _ => vlv_le e _)
      refine me1 (pc' := 52) (L' := [(0, .ref p), (1, .ref a), (2, ii (fr : Int)), (3, ii (m : Int)), (4, ii (s : Int)), (5, ii (l : Int)), (6, ii ((fr : Int) + (k : Int)))]) (S' := [.ref a]) dm_X10_init__51 rfl rfl rfl rfl ?_
      refine me2 (pc' := 55) (S' := []) dm_X10_init__52 rfl rfl rfl ?_
      refine me1 (pc' := 57) (L' := [(0, .ref p), (1, .ref a), (2, ii (fr : Int)), (3, ii (m : Int)), (4, ii (s : Int)), (5, ii (l : Int)), (6, ii ((fr : Int) + (k : Int)))]) (S' := [ii ((fr : Int) + (k : Int))]) dm_X10_init__55 rfl rfl rfl rfl ?_
      refine me1 (pc' := 58) (L' := [(0, .ref p), (1, .ref a), (2, ii (fr : Int)), (3, ii (m : Int)), (4, ii (s : Int)), (5, ii (l : Int)), (6, ii ((fr : Int) + (k : Int)))]) (S' := [ii (fr : Int), ii ((fr : Int) + (k : Int))]) dm_X10_init__57 rfl rfl rfl rfl ?_
      refine me1 (pc' := 59) (L' := [(0, .ref p), (1, .ref a), (2, ii (fr : Int)), (3, ii (m : Int)), (4, ii (s : Int)), (5, ii (l : Int)), (6, ii ((fr : Int) + (k : Int)))]) (S' := [ii (m : Int), ii (fr : Int), ii ((fr : Int) + (k : Int))]) dm_X10_init__58 rfl rfl rfl rfl ?_
      refine y_iadd (a := (fr : Int)) (b := (m : Int)) dm_X10_init__59 (pc' := 60) rfl ?_
      refine y_2ge (a := (fr : Int) + (k : Int)) (b := (fr : Int) + (m : Int)) (t := 114) (pc' := 63) dm_X10_init__60 rfl rfl (by omega) (fun hb1 => ?_) (fun hb1 => ?_)
      · refine me1 (pc' := 115) (L' := [(0, .ref p), (1, .ref a), (2, ii (fr : Int)), (3, ii (m : Int)), (4, ii (s : Int)), (5, ii (l : Int)), (6, ii ((fr : Int) + (k : Int)))]) (S' := [.ref p]) dm_X10_init__114 rfl rfl rfl rfl ?_
        refine me1 (pc' := 117) (L' := [(0, .ref p), (1, .ref a), (2, ii (fr : Int)), (3, ii (m : Int)), (4, ii (s : Int)), (5, ii (l : Int)), (6, ii ((fr : Int) + (k : Int)))]) (S' := [ii (s : Int), .ref p]) dm_X10_init__115 rfl rfl rfl rfl ?_
        refine me3 (pc' := 120) (S' := []) (h1 := (h).set p (cO 10 [ii 7, .long (Int64.ofInt 0), .ref 1, .ref a, ii (fr : Int), ii (m : Int), ii 0, ii (s : Int), ii 0])) dm_X10_init__117 (g_put (fs' := [ii 7, .long (Int64.ofInt 0), .ref 1, .ref a, ii (fr : Int), ii (m : Int), ii 0, ii (s : Int), ii 0]) (hl_set (hl_lt hp)) rfl (by rw [List.set_set]) rfl (by simp) rfl (by decide) (fun _ => rfl) (by omega)) rfl rfl rfl ?_
        refine me1 (pc' := 121) (L' := [(0, .ref p), (1, .ref a), (2, ii (fr : Int)), (3, ii (m : Int)), (4, ii (s : Int)), (5, ii (l : Int)), (6, ii ((fr : Int) + (k : Int)))]) (S' := [.ref p]) dm_X10_init__120 rfl rfl rfl rfl ?_
        refine me1 (pc' := 123) (L' := [(0, .ref p), (1, .ref a), (2, ii (fr : Int)), (3, ii (m : Int)), (4, ii (s : Int)), (5, ii (l : Int)), (6, ii ((fr : Int) + (k : Int)))]) (S' := [ii (l : Int), .ref p]) dm_X10_init__121 rfl rfl rfl rfl ?_
        refine me0 (pc' := 124) (S' := [ii 1, ii (l : Int), .ref p]) dm_X10_init__123 rfl rfl rfl rfl ?_
        refine y_iadd (a := (l : Int)) (b := 1) dm_X10_init__124 (pc' := 125) rfl ?_
        refine me3 (pc' := 128) (S' := []) (h1 := (h).set p (cO 10 [ii 7, .long (Int64.ofInt 0), .ref 1, .ref a, ii (fr : Int), ii (m : Int), ii 0, ii (s : Int), ii ((l : Int) + 1)])) dm_X10_init__125 (g_put (fs' := [ii 7, .long (Int64.ofInt 0), .ref 1, .ref a, ii (fr : Int), ii (m : Int), ii 0, ii (s : Int), ii ((l : Int) + 1)]) (hl_set (hl_lt hp)) rfl (by rw [List.set_set]) rfl (by simp) rfl (by decide) (fun _ => rfl) (by omega)) rfl rfl rfl ?_
        refine y_ret (r := none) dm_X10_init__128 rfl rfl rfl ?_
        have hkm : k = m := by omega
        subst hkm
        refine ⟨rfl, Eq.trans ?_ hH⟩
        have e1 : (s : Int) = ((1 + sumN k (fun k => vsz e (ch k)) : Nat) : Int) := by omega
        have e2 : (l : Int) + 1 = ((1 + maxN k (fun k => vlv e (ch k)) : Nat) : Int) := by omega
        rw [e1, e2]
      · refine me1 (pc' := 65) (L' := [(0, .ref p), (1, .ref a), (2, ii (fr : Int)), (3, ii (m : Int)), (4, ii (s : Int)), (5, ii (l : Int)), (6, ii ((fr : Int) + (k : Int)))]) (S' := [ii ((fr : Int) + (k : Int))]) dm_X10_init__63 rfl rfl rfl rfl ?_
        refine me1 (pc' := 66) (L' := [(0, .ref p), (1, .ref a), (2, ii (fr : Int)), (3, ii (m : Int)), (4, ii (s : Int)), (5, ii (l : Int)), (6, ii ((fr : Int) + (k : Int)))]) (S' := [.ref a, ii ((fr : Int) + (k : Int))]) dm_X10_init__65 rfl rfl rfl rfl ?_
        refine me3 (pc' := 67) (S' := [ii n, ii ((fr : Int) + (k : Int))]) dm_X10_init__66 (yh_len (n := n) rfl (hl_ne hap ha) (by omega)) rfl rfl rfl ?_
        refine y_2ge (a := (fr : Int) + (k : Int)) (b := n) (t := 114) (pc' := 70) dm_X10_init__67 rfl rfl (by omega) (fun hb2 => ?_) (fun hb2 => ?_)
        · exfalso; omega
        · obtain ⟨q, hq1, hqv⟩ := hq k (by omega)
          obtain ⟨row1, fr1, vals1, hqc, hq2, hqA, hqk, hqm, hqc2, hqs, hql⟩ := cv_valE hqv
          have hq3 : g ((fr : Int) + (k : Int)).toNat = some q := by rw [← hq1]; congr 1
          have hqp : q ≠ p := fun z => hpA (z ▸ hqA)
          refine me1 (pc' := 72) (L' := [(0, .ref p), (1, .ref a), (2, ii (fr : Int)), (3, ii (m : Int)), (4, ii (s : Int)), (5, ii (l : Int)), (6, ii ((fr : Int) + (k : Int)))]) (S' := [ii (s : Int)]) dm_X10_init__70 rfl rfl rfl rfl ?_
          refine me1 (pc' := 73) (L' := [(0, .ref p), (1, .ref a), (2, ii (fr : Int)), (3, ii (m : Int)), (4, ii (s : Int)), (5, ii (l : Int)), (6, ii ((fr : Int) + (k : Int)))]) (S' := [.ref a, ii (s : Int)]) dm_X10_init__72 rfl rfl rfl rfl ?_
          refine me1 (pc' := 75) (L' := [(0, .ref p), (1, .ref a), (2, ii (fr : Int)), (3, ii (m : Int)), (4, ii (s : Int)), (5, ii (l : Int)), (6, ii ((fr : Int) + (k : Int)))]) (S' := [ii ((fr : Int) + (k : Int)), .ref a, ii (s : Int)]) dm_X10_init__73 rfl rfl rfl rfl ?_
          refine me3 (pc' := 76) (S' := [.ref q, ii (s : Int)]) dm_X10_init__75 (yh_aald (w := some q) rfl (hl_ne hap ha) (by omega) (by omega) (by omega) (by omega) hq3) rfl rfl rfl ?_
          refine me3 (pc' := 79) (S' := [ii (vsz e (ch k) : Int), ii (s : Int)]) dm_X10_init__76 (g_get (v := ii (vsz e (ch k) : Int)) (hl_ne hqp hqc) rfl rfl (by omega)) rfl rfl rfl ?_
          refine y_iadd (a := (s : Int)) (b := (vsz e (ch k) : Int)) dm_X10_init__79 (pc' := 80) rfl ?_
          refine me1 (pc' := 82) (L' := [(4, ii ((s : Int) + (vsz e (ch k) : Int))), (0, .ref p), (1, .ref a), (2, ii (fr : Int)), (3, ii (m : Int)), (5, ii (l : Int)), (6, ii ((fr : Int) + (k : Int)))]) (S' := []) dm_X10_init__80 rfl rfl rfl rfl ?_
          refine me1 (pc' := 83) (L' := [(4, ii ((s : Int) + (vsz e (ch k) : Int))), (0, .ref p), (1, .ref a), (2, ii (fr : Int)), (3, ii (m : Int)), (5, ii (l : Int)), (6, ii ((fr : Int) + (k : Int)))]) (S' := [.ref a]) dm_X10_init__82 rfl rfl rfl rfl ?_
          refine me1 (pc' := 85) (L' := [(4, ii ((s : Int) + (vsz e (ch k) : Int))), (0, .ref p), (1, .ref a), (2, ii (fr : Int)), (3, ii (m : Int)), (5, ii (l : Int)), (6, ii ((fr : Int) + (k : Int)))]) (S' := [ii ((fr : Int) + (k : Int)), .ref a]) dm_X10_init__83 rfl rfl rfl rfl ?_
          refine me3 (pc' := 86) (S' := [.ref q]) dm_X10_init__85 (yh_aald (w := some q) rfl (hl_ne hap ha) (by omega) (by omega) (by omega) (by omega) hq3) rfl rfl rfl ?_
          refine me3 (pc' := 89) (S' := [ii (vlv e (ch k) : Int)]) dm_X10_init__86 (g_get (v := ii (vlv e (ch k) : Int)) (hl_ne hqp hqc) rfl rfl (by omega)) rfl rfl rfl ?_
          refine me1 (pc' := 91) (L' := [(4, ii ((s : Int) + (vsz e (ch k) : Int))), (0, .ref p), (1, .ref a), (2, ii (fr : Int)), (3, ii (m : Int)), (5, ii (l : Int)), (6, ii ((fr : Int) + (k : Int)))]) (S' := [ii (l : Int), ii (vlv e (ch k) : Int)]) dm_X10_init__89 rfl rfl rfl rfl ?_
          refine y_2le (a := (vlv e (ch k) : Int)) (b := (l : Int)) (t := 104) (pc' := 94) dm_X10_init__91 rfl rfl (by omega) (fun hb3 => ?_) (fun hb3 => ?_)
          · refine me1 (pc' := 106) (L' := [(4, ii ((s : Int) + (vsz e (ch k) : Int))), (0, .ref p), (1, .ref a), (2, ii (fr : Int)), (3, ii (m : Int)), (5, ii (l : Int)), (6, ii ((fr : Int) + (k : Int)))]) (S' := [ii (l : Int)]) dm_X10_init__104 rfl rfl rfl rfl ?_
            refine me1 (pc' := 108) (L' := [(5, ii (l : Int)), (4, ii ((s : Int) + (vsz e (ch k) : Int))), (0, .ref p), (1, .ref a), (2, ii (fr : Int)), (3, ii (m : Int)), (6, ii ((fr : Int) + (k : Int)))]) (S' := []) dm_X10_init__106 rfl rfl rfl rfl ?_
            refine y_iinc (pc' := 111) (L' := [(6, ii ((fr : Int) + (k : Int) + 1)), (5, ii (l : Int)), (4, ii ((s : Int) + (vsz e (ch k) : Int))), (0, .ref p), (1, .ref a), (2, ii (fr : Int)), (3, ii (m : Int))]) dm_X10_init__108 (y_incp (a := ((fr : Int) + (k : Int))) (c := 1) rfl rfl (by decide)) rfl ?_
            refine me2 (pc' := 51) (S' := []) dm_X10_init__111 rfl rfl rfl ?_
            exact pg_sub (L := [(0, .ref p), (1, .ref a), (2, ii (fr : Int)), (3, ii (m : Int)), (4, ii ((s + vsz e (ch k)) : Int)), (5, ii (l : Int)), (6, ii ((fr : Int) + ((k + 1) : Int)))]) rfl rfl rfl (ih51 (m - (k + 1)) (by omega) (k + 1) (s + vsz e (ch k)) l rfl (by omega) (by show s + vsz e (ch k) = 1 + (sumN k (fun k => vsz e (ch k)) + vsz e (ch k)); omega) (by show l = max (maxN k (fun k => vlv e (ch k))) (vlv e (ch k)); omega))
          · refine me1 (pc' := 95) (L' := [(4, ii ((s : Int) + (vsz e (ch k) : Int))), (0, .ref p), (1, .ref a), (2, ii (fr : Int)), (3, ii (m : Int)), (5, ii (l : Int)), (6, ii ((fr : Int) + (k : Int)))]) (S' := [.ref a]) dm_X10_init__94 rfl rfl rfl rfl ?_
            refine me1 (pc' := 97) (L' := [(4, ii ((s : Int) + (vsz e (ch k) : Int))), (0, .ref p), (1, .ref a), (2, ii (fr : Int)), (3, ii (m : Int)), (5, ii (l : Int)), (6, ii ((fr : Int) + (k : Int)))]) (S' := [ii ((fr : Int) + (k : Int)), .ref a]) dm_X10_init__95 rfl rfl rfl rfl ?_
            refine me3 (pc' := 98) (S' := [.ref q]) dm_X10_init__97 (yh_aald (w := some q) rfl (hl_ne hap ha) (by omega) (by omega) (by omega) (by omega) hq3) rfl rfl rfl ?_
            refine me3 (pc' := 101) (S' := [ii (vlv e (ch k) : Int)]) dm_X10_init__98 (g_get (v := ii (vlv e (ch k) : Int)) (hl_ne hqp hqc) rfl rfl (by omega)) rfl rfl rfl ?_
            refine me2 (pc' := 106) (S' := [ii (vlv e (ch k) : Int)]) dm_X10_init__101 rfl rfl rfl ?_
            refine me1 (pc' := 108) (L' := [(5, ii (vlv e (ch k) : Int)), (4, ii ((s : Int) + (vsz e (ch k) : Int))), (0, .ref p), (1, .ref a), (2, ii (fr : Int)), (3, ii (m : Int)), (6, ii ((fr : Int) + (k : Int)))]) (S' := []) dm_X10_init__106 rfl rfl rfl rfl ?_
            refine y_iinc (pc' := 111) (L' := [(6, ii ((fr : Int) + (k : Int) + 1)), (5, ii (vlv e (ch k) : Int)), (4, ii ((s : Int) + (vsz e (ch k) : Int))), (0, .ref p), (1, .ref a), (2, ii (fr : Int)), (3, ii (m : Int))]) dm_X10_init__108 (y_incp (a := ((fr : Int) + (k : Int))) (c := 1) rfl rfl (by decide)) rfl ?_
            refine me2 (pc' := 51) (S' := []) dm_X10_init__111 rfl rfl rfl ?_
            exact pg_sub (L := [(0, .ref p), (1, .ref a), (2, ii (fr : Int)), (3, ii (m : Int)), (4, ii ((s + vsz e (ch k)) : Int)), (5, ii (vlv e (ch k) : Int)), (6, ii ((fr : Int) + ((k + 1) : Int)))]) rfl rfl rfl (ih51 (m - (k + 1)) (by omega) (k + 1) (s + vsz e (ch k)) (vlv e (ch k)) rfl (by omega) (by show s + vsz e (ch k) = 1 + (sumN k (fun k => vsz e (ch k)) + vsz e (ch k)); omega) (by show vlv e (ch k) = max (maxN k (fun k => vlv e (ch k))) (vlv e (ch k)); omega))
  exact pg_sub (L := [(0, .ref p), (1, .ref a), (2, ii (fr : Int)), (3, ii (m : Int)), (4, ii (1 : Int)), (5, ii (0 : Int)), (6, ii ((fr : Int) + (0 : Int)))]) rfl rfl rfl (lp51 _ 0 1 0 rfl (by omega) rfl rfl)
theorem c_newN0 {xt : mj_X} {d p fr : Nat} {h H : mj_H} (hd : 2 ≤ d) (hp : h[p]? = some c0V) (hp2 : 2 ≤ p) (hfr : fr ≤ 1000) (hH : h.set p (cNest .null (fr : Int) 0 1 1) = H) : pgN xt d 110 [.ref p, .null, ii (fr : Int), ii 0] h (fun h' => h' = H) := by
  refine x_enter pm_X10_init_ (L0 := [(0, .ref p), (1, .null), (2, ii (fr : Int)), (3, ii 0)]) rfl (Nat.le_of_ble_eq_true rfl) (by omega) ?_
  refine me1 (pc' := 1) (L' := [(0, .ref p), (1, .null), (2, ii (fr : Int)), (3, ii 0)]) (S' := [.ref p]) dm_X10_init__0 rfl rfl rfl rfl ?_
  refine me4o (pc' := 4) (rest := []) dm_X10_init__1 rfl rfl (by omega) rfl rfl rfl ?_
  refine me1 (pc' := 5) (L' := [(0, .ref p), (1, .null), (2, ii (fr : Int)), (3, ii 0)]) (S' := [.ref p]) dm_X10_init__4 rfl rfl rfl rfl ?_
  refine me0 (pc' := 7) (S' := [ii 7, .ref p]) dm_X10_init__5 rfl rfl rfl rfl ?_
  refine me3 (pc' := 10) (S' := []) (h1 := (h).set p (cO 10 [ii 7, .long (Int64.ofInt 0), .null, .null, ii 0, ii 0, ii 0, ii 0, ii 0])) dm_X10_init__7 (g_put (fs' := [ii 7, .long (Int64.ofInt 0), .null, .null, ii 0, ii 0, ii 0, ii 0, ii 0]) hp rfl rfl rfl (by simp) rfl (by decide) (fun _ => rfl) (by omega)) rfl rfl rfl ?_
  refine me1 (pc' := 11) (L' := [(0, .ref p), (1, .null), (2, ii (fr : Int)), (3, ii 0)]) (S' := [.ref p]) dm_X10_init__10 rfl rfl rfl rfl ?_
  refine me0 (pc' := 12) (S' := [.long (Int64.ofInt 0), .ref p]) dm_X10_init__11 rfl rfl rfl rfl ?_
  refine me3 (pc' := 15) (S' := []) (h1 := (h).set p (cO 10 [ii 7, .long (Int64.ofInt 0), .null, .null, ii 0, ii 0, ii 0, ii 0, ii 0])) dm_X10_init__12 (g_put (fs' := [ii 7, .long (Int64.ofInt 0), .null, .null, ii 0, ii 0, ii 0, ii 0, ii 0]) (hl_set (hl_lt hp)) rfl (by rw [List.set_set]) rfl (by simp) rfl (by decide) (fun _ => rfl) (by omega)) rfl rfl rfl ?_
  refine me1 (pc' := 16) (L' := [(0, .ref p), (1, .null), (2, ii (fr : Int)), (3, ii 0)]) (S' := [.ref p]) dm_X10_init__15 rfl rfl rfl rfl ?_
  refine me3 (pc' := 19) (S' := [.ref 1, .ref p]) dm_X10_init__16 rfl rfl rfl rfl ?_
  refine me3 (pc' := 22) (S' := []) (h1 := (h).set p (cO 10 [ii 7, .long (Int64.ofInt 0), .ref 1, .null, ii 0, ii 0, ii 0, ii 0, ii 0])) dm_X10_init__19 (g_put (fs' := [ii 7, .long (Int64.ofInt 0), .ref 1, .null, ii 0, ii 0, ii 0, ii 0, ii 0]) (hl_set (hl_lt hp)) rfl (by rw [List.set_set]) rfl (by simp) rfl (by decide) (fun _ => rfl) (by omega)) rfl rfl rfl ?_
  refine me1 (pc' := 23) (L' := [(0, .ref p), (1, .null), (2, ii (fr : Int)), (3, ii 0)]) (S' := [.ref p]) dm_X10_init__22 rfl rfl rfl rfl ?_
  refine me1 (pc' := 24) (L' := [(0, .ref p), (1, .null), (2, ii (fr : Int)), (3, ii 0)]) (S' := [.null, .ref p]) dm_X10_init__23 rfl rfl rfl rfl ?_
  refine me3 (pc' := 27) (S' := []) (h1 := (h).set p (cO 10 [ii 7, .long (Int64.ofInt 0), .ref 1, .null, ii 0, ii 0, ii 0, ii 0, ii 0])) dm_X10_init__24 (g_put (fs' := [ii 7, .long (Int64.ofInt 0), .ref 1, .null, ii 0, ii 0, ii 0, ii 0, ii 0]) (hl_set (hl_lt hp)) rfl (by rw [List.set_set]) rfl (by simp) rfl (by decide) (fun _ => rfl) (by omega)) rfl rfl rfl ?_
  refine me1 (pc' := 28) (L' := [(0, .ref p), (1, .null), (2, ii (fr : Int)), (3, ii 0)]) (S' := [.ref p]) dm_X10_init__27 rfl rfl rfl rfl ?_
  refine me1 (pc' := 29) (L' := [(0, .ref p), (1, .null), (2, ii (fr : Int)), (3, ii 0)]) (S' := [ii (fr : Int), .ref p]) dm_X10_init__28 rfl rfl rfl rfl ?_
  refine me3 (pc' := 32) (S' := []) (h1 := (h).set p (cO 10 [ii 7, .long (Int64.ofInt 0), .ref 1, .null, ii (fr : Int), ii 0, ii 0, ii 0, ii 0])) dm_X10_init__29 (g_put (fs' := [ii 7, .long (Int64.ofInt 0), .ref 1, .null, ii (fr : Int), ii 0, ii 0, ii 0, ii 0]) (hl_set (hl_lt hp)) rfl (by rw [List.set_set]) rfl (by simp) rfl (by decide) (fun _ => rfl) (by omega)) rfl rfl rfl ?_
  refine me1 (pc' := 33) (L' := [(0, .ref p), (1, .null), (2, ii (fr : Int)), (3, ii 0)]) (S' := [.ref p]) dm_X10_init__32 rfl rfl rfl rfl ?_
  refine me1 (pc' := 34) (L' := [(0, .ref p), (1, .null), (2, ii (fr : Int)), (3, ii 0)]) (S' := [ii 0, .ref p]) dm_X10_init__33 rfl rfl rfl rfl ?_
  refine me3 (pc' := 37) (S' := []) (h1 := (h).set p (cO 10 [ii 7, .long (Int64.ofInt 0), .ref 1, .null, ii (fr : Int), ii 0, ii 0, ii 0, ii 0])) dm_X10_init__34 (g_put (fs' := [ii 7, .long (Int64.ofInt 0), .ref 1, .null, ii (fr : Int), ii 0, ii 0, ii 0, ii 0]) (hl_set (hl_lt hp)) rfl (by rw [List.set_set]) rfl (by simp) rfl (by decide) (fun _ => rfl) (by omega)) rfl rfl rfl ?_
  refine me1 (pc' := 38) (L' := [(0, .ref p), (1, .null), (2, ii (fr : Int)), (3, ii 0)]) (S' := [.ref p]) dm_X10_init__37 rfl rfl rfl rfl ?_
  refine me0 (pc' := 39) (S' := [ii 0, .ref p]) dm_X10_init__38 rfl rfl rfl rfl ?_
  refine me3 (pc' := 42) (S' := []) (h1 := (h).set p (cO 10 [ii 7, .long (Int64.ofInt 0), .ref 1, .null, ii (fr : Int), ii 0, ii 0, ii 0, ii 0])) dm_X10_init__39 (g_put (fs' := [ii 7, .long (Int64.ofInt 0), .ref 1, .null, ii (fr : Int), ii 0, ii 0, ii 0, ii 0]) (hl_set (hl_lt hp)) rfl (by rw [List.set_set]) rfl (by simp) rfl (by decide) (fun _ => rfl) (by omega)) rfl rfl rfl ?_
  refine me0 (pc' := 43) (S' := [ii 1]) dm_X10_init__42 rfl rfl rfl rfl ?_
  refine me1 (pc' := 45) (L' := [(4, ii 1), (0, .ref p), (1, .null), (2, ii (fr : Int)), (3, ii 0)]) (S' := []) dm_X10_init__43 rfl rfl rfl rfl ?_
  refine me0 (pc' := 46) (S' := [ii 0]) dm_X10_init__45 rfl rfl rfl rfl ?_
  refine me1 (pc' := 48) (L' := [(5, ii 0), (4, ii 1), (0, .ref p), (1, .null), (2, ii (fr : Int)), (3, ii 0)]) (S' := []) dm_X10_init__46 rfl rfl rfl rfl ?_
  refine me1 (pc' := 49) (L' := [(5, ii 0), (4, ii 1), (0, .ref p), (1, .null), (2, ii (fr : Int)), (3, ii 0)]) (S' := [ii (fr : Int)]) dm_X10_init__48 rfl rfl rfl rfl ?_
  refine me1 (pc' := 51) (L' := [(6, ii (fr : Int)), (5, ii 0), (4, ii 1), (0, .ref p), (1, .null), (2, ii (fr : Int)), (3, ii 0)]) (S' := []) dm_X10_init__49 rfl rfl rfl rfl ?_
  refine me1 (pc' := 52) (L' := [(6, ii (fr : Int)), (5, ii 0), (4, ii 1), (0, .ref p), (1, .null), (2, ii (fr : Int)), (3, ii 0)]) (S' := [.null]) dm_X10_init__51 rfl rfl rfl rfl ?_
  refine me2 (pc' := 114) (S' := []) dm_X10_init__52 rfl rfl rfl ?_
  refine me1 (pc' := 115) (L' := [(6, ii (fr : Int)), (5, ii 0), (4, ii 1), (0, .ref p), (1, .null), (2, ii (fr : Int)), (3, ii 0)]) (S' := [.ref p]) dm_X10_init__114 rfl rfl rfl rfl ?_
  refine me1 (pc' := 117) (L' := [(6, ii (fr : Int)), (5, ii 0), (4, ii 1), (0, .ref p), (1, .null), (2, ii (fr : Int)), (3, ii 0)]) (S' := [ii 1, .ref p]) dm_X10_init__115 rfl rfl rfl rfl ?_
  refine me3 (pc' := 120) (S' := []) (h1 := (h).set p (cO 10 [ii 7, .long (Int64.ofInt 0), .ref 1, .null, ii (fr : Int), ii 0, ii 0, ii 1, ii 0])) dm_X10_init__117 (g_put (fs' := [ii 7, .long (Int64.ofInt 0), .ref 1, .null, ii (fr : Int), ii 0, ii 0, ii 1, ii 0]) (hl_set (hl_lt hp)) rfl (by rw [List.set_set]) rfl (by simp) rfl (by decide) (fun _ => rfl) (by omega)) rfl rfl rfl ?_
  refine me1 (pc' := 121) (L' := [(6, ii (fr : Int)), (5, ii 0), (4, ii 1), (0, .ref p), (1, .null), (2, ii (fr : Int)), (3, ii 0)]) (S' := [.ref p]) dm_X10_init__120 rfl rfl rfl rfl ?_
  refine me1 (pc' := 123) (L' := [(6, ii (fr : Int)), (5, ii 0), (4, ii 1), (0, .ref p), (1, .null), (2, ii (fr : Int)), (3, ii 0)]) (S' := [ii 0, .ref p]) dm_X10_init__121 rfl rfl rfl rfl ?_
  refine me0 (pc' := 124) (S' := [ii 1, ii 0, .ref p]) dm_X10_init__123 rfl rfl rfl rfl ?_
  refine me0 (pc' := 125) (S' := [ii 1, .ref p]) dm_X10_init__124 rfl rfl rfl rfl ?_
  refine me3 (pc' := 128) (S' := []) (h1 := (h).set p (cO 10 [ii 7, .long (Int64.ofInt 0), .ref 1, .null, ii (fr : Int), ii 0, ii 0, ii 1, ii 1])) dm_X10_init__125 (g_put (fs' := [ii 7, .long (Int64.ofInt 0), .ref 1, .null, ii (fr : Int), ii 0, ii 0, ii 1, ii 1]) (hl_set (hl_lt hp)) rfl (by rw [List.set_set]) rfl (by simp) rfl (by decide) (fun _ => rfl) (by omega)) rfl rfl rfl ?_
  refine y_ret (r := none) dm_X10_init__128 rfl rfl rfl ?_
  exact ⟨rfl, hH⟩
set_option maxRecDepth 20000 in
theorem pm_X11_fitsInt : mj_mmof pg_ms 99 = some ((⟨"ArrayCalculator", "fitsInt", "(J)Z"⟩, prog_1_method_21_code, 2, (Option.some Jvm.ClassFile.FieldType.boolean)), 11, false, mj_dec prog_1_method_21_code) := rfl
theorem dm_X11_fitsInt_0 : mj_dec prog_1_method_21_code 0 = some (.lload_n 0, 1) := by decide +kernel
theorem dm_X11_fitsInt_1 : mj_dec prog_1_method_21_code 1 = some (.ldc2_w 212, 3) := by decide +kernel
theorem dm_X11_fitsInt_4 : mj_dec prog_1_method_21_code 4 = some (.lcmp, 1) := by decide +kernel
theorem dm_X11_fitsInt_5 : mj_dec prog_1_method_21_code 5 = some (.ifCond .lt 15, 3) := by decide +kernel
theorem dm_X11_fitsInt_8 : mj_dec prog_1_method_21_code 8 = some (.lload_n 0, 1) := by decide +kernel
theorem dm_X11_fitsInt_9 : mj_dec prog_1_method_21_code 9 = some (.ldc2_w 214, 3) := by decide +kernel
theorem dm_X11_fitsInt_12 : mj_dec prog_1_method_21_code 12 = some (.lcmp, 1) := by decide +kernel
theorem dm_X11_fitsInt_13 : mj_dec prog_1_method_21_code 13 = some (.ifCond .gt 7, 3) := by decide +kernel
theorem dm_X11_fitsInt_16 : mj_dec prog_1_method_21_code 16 = some (.iconst 1, 1) := by decide +kernel
theorem dm_X11_fitsInt_17 : mj_dec prog_1_method_21_code 17 = some (.goto 4, 3) := by decide +kernel
theorem dm_X11_fitsInt_20 : mj_dec prog_1_method_21_code 20 = some (.iconst 0, 1) := by decide +kernel
theorem dm_X11_fitsInt_21 : mj_dec prog_1_method_21_code 21 = some (.ireturn, 1) := by decide +kernel
theorem c_fitsInt {xt : mj_X} {d : Nat} {h : mj_H} {x : Int64} (hd : 1 ≤ d) : pgP xt d 99 [.long x] h (zz (fitsB x)) := by
  have hmin : (Int64.ofInt (-2147483648)).toInt = -2147483648 := by decide
  have hmax : (Int64.ofInt 2147483647).toInt = 2147483647 := by decide
  refine x_enter pm_X11_fitsInt (L0 := [(0, .long x)]) rfl (Nat.le_of_ble_eq_true rfl) (by omega) ?_
  refine me1 (pc' := 1) (L' := [(0, .long x)]) (S' := [.long x]) dm_X11_fitsInt_0 rfl rfl rfl rfl ?_
  refine me3 (pc' := 4) (S' := [.long (Int64.ofInt (-2147483648)), .long x]) dm_X11_fitsInt_1 rfl rfl rfl rfl ?_
  refine y_llt (x := x) (y := Int64.ofInt (-2147483648)) (t := 20) (pc1 := 5) (pc' := 8) dm_X11_fitsInt_4 rfl dm_X11_fitsInt_5 rfl rfl (fun hb1 => ?_) (fun hb1 => ?_)
  · refine me0 (pc' := 21) (S' := [ii 0]) dm_X11_fitsInt_20 rfl rfl rfl rfl ?_
    refine y_ret (r := some (ii 0)) dm_X11_fitsInt_21 rfl rfl rfl ?_
    exact ⟨congrArg some (zf (by rw [hmin, hmax] at *; omega)), rfl⟩
  · refine me1 (pc' := 9) (L' := [(0, .long x)]) (S' := [.long x]) dm_X11_fitsInt_8 rfl rfl rfl rfl ?_
    refine me3 (pc' := 12) (S' := [.long (Int64.ofInt 2147483647), .long x]) dm_X11_fitsInt_9 rfl rfl rfl rfl ?_
    refine y_lgt (x := x) (y := Int64.ofInt 2147483647) (t := 20) (pc1 := 13) (pc' := 16) dm_X11_fitsInt_12 rfl dm_X11_fitsInt_13 rfl rfl (fun hb2 => ?_) (fun hb2 => ?_)
    · refine me0 (pc' := 21) (S' := [ii 0]) dm_X11_fitsInt_20 rfl rfl rfl rfl ?_
      refine y_ret (r := some (ii 0)) dm_X11_fitsInt_21 rfl rfl rfl ?_
      exact ⟨congrArg some (zf (by rw [hmin, hmax] at *; omega)), rfl⟩
    · refine me0 (pc' := 17) (S' := [ii 1]) dm_X11_fitsInt_16 rfl rfl rfl rfl ?_
      refine me2 (pc' := 21) (S' := [ii 1]) dm_X11_fitsInt_17 rfl rfl rfl ?_
      refine y_ret (r := some (ii 1)) dm_X11_fitsInt_21 rfl rfl rfl ?_
      exact ⟨congrArg some (zt (by rw [hmin, hmax] at *; omega)), rfl⟩
