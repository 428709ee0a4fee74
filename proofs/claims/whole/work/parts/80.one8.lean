/-! an array of values that is filled while values are made -/
def vfl (A : Nat → Prop) (h : mj_H) (L : Nat) (hh : mj_H) (n : Nat) (V : Nat → Option Nat) (k e : Nat) (ch : Nat → VV) (a b : Nat) : Prop := h.length = L ∧ ∃ X, hh = (h ++ [cA 4 n V]) ++ X ∧ X.length ≤ a ∧ mj_sl X ≤ b ∧ ∀ j, j < k → ∃ q, V j = some q ∧ cv (newA A (h ++ [cA 4 n V]) hh) hh e q (ch j)
section VFL
variable {A : Nat → Prop} {h hh : mj_H} {L n k e a b : Nat} {V : Nat → Option Nat} {ch : Nat → VV}
theorem vfl_0 (hL : h.length = L) : vfl A h L (h ++ [cA 4 n V]) n V 0 e ch 0 0 := ⟨hL, [], (List.append_nil _).symm, Nat.le_refl _, Nat.le_refl _, fun j hj => absurd hj (Nat.not_lt_zero j)⟩
theorem vfl_get (hv : vfl A h L hh n V k e ch a b) {x : Nat} {c : mj_E} (hg : h[x]? = some c) : hh[x]? = some c := by
  obtain ⟨-, X, rfl, -⟩ := hv
  exact hl_app (hl_app hg)
theorem vfl_arr (hv : vfl A h L hh n V k e ch a b) : hh[L]? = some (cA 4 n V) := by
  obtain ⟨rfl, X, rfl, -⟩ := hv
  exact hl_app hl_new
theorem vfl_len (hv : vfl A h L hh n V k e ch a b) : L + 1 ≤ hh.length := by
  obtain ⟨rfl, X, rfl, -⟩ := hv
  simp
theorem okA_app {X : mj_H} (hA : okA A h) : okA A (h ++ X) := fun x hx => by
  have := hA x hx
  rw [List.length_append]
  omega
theorem vfl_okA (hv : vfl A h L hh n V k e ch a b) (hA : okA A h) (hl : 127 ≤ L) : okA (newA A (h ++ [cA 4 n V]) hh) hh := by
  have h1 := vfl_len hv
  obtain ⟨rfl, X, rfl, -⟩ := hv
  exact okA_new (okA_app hA) (by simp; omega) (by simp)
theorem vfl_cv (hv : vfl A h L hh n V k e ch a b) {d p : Nat} {v : VV} (hc : cv A h d p v) : cv (newA A (h ++ [cA 4 n V]) hh) hh d p v := by
  obtain ⟨-, X, rfl, -⟩ := hv
  exact cv_new (cv_app hc)
theorem vfl_kid (hv : vfl A h L hh n V k e ch a b) : ∀ j, j < k → ∃ q, V j = some q ∧ cv (newA A (h ++ [cA 4 n V]) hh) hh e q (ch j) := by
  obtain ⟨-, X, rfl, -, -, h1⟩ := hv
  exact h1
theorem vfl_s (hv : vfl A h L hh n V k e ch a b) (hA : okA A h) {q a' b' : Nat} {h3 : mj_H} (hr : vres (newA A (h ++ [cA 4 n V]) hh) hh e (ch k) a' b' (.ref q) h3) : vfl A h L (h3.set L (cA 4 n (va_up V k (some q)))) n (va_up V k (some q)) (k + 1) e ch (a + a') (b + b') := by
  obtain ⟨rfl, X, rfl, h1, h2, h4⟩ := hv
  obtain ⟨q', X', hq, rfl, h5, h6, h7⟩ := hr
  cases hq
  have hset : ((h ++ [cA 4 n V] ++ X) ++ X').set h.length (cA 4 n (va_up V k (some q))) = (h ++ [cA 4 n (va_up V k (some q))]) ++ (X ++ X') := by
    rw [List.append_assoc (h ++ [cA 4 n V]) X X', List.set_append_left _ _ (by simp), hl_setl]
  have hlen : (h ++ [cA 4 n V] ++ X).length = h.length + 1 + X.length := by simp; omega
  have key : ∀ {q0 : Nat} {w : VV} {B : Nat → Prop} {h0 : mj_H}, cv B h0 e q0 w → (∀ x c, B x → h0[x]? = some c → ((h ++ [cA 4 n V] ++ X) ++ X')[x]? = some c) → (∀ x, B x → A x ∨ (h.length + 1 ≤ x ∧ x < h.length + 1 + X.length + X'.length)) → cv (newA A (h ++ [cA 4 n (va_up V k (some q))]) (((h ++ [cA 4 n V] ++ X) ++ X').set h.length (cA 4 n (va_up V k (some q))))) (((h ++ [cA 4 n V] ++ X) ++ X').set h.length (cA 4 n (va_up V k (some q)))) e q0 w := by
    intro q0 w B h0 hc hk hB
    refine cv_keep (fun x c hx hg => ?_) hc
    have hne : h.length ≠ x := by
      rcases hB x hx with z | z
      · have := hA x z; omega
      · omega
    refine ⟨?_, by rw [List.getElem?_set_ne hne]; exact hk x c hx hg⟩
    rcases hB x hx with z | z
    · exact Or.inl z
    · refine Or.inr ⟨by simp; omega, ?_⟩
      rw [List.length_set, List.length_append, hlen]
      omega
  refine ⟨rfl, X ++ X', hset, by rw [List.length_append]; omega, by rw [sl_app]; omega, fun j hj => ?_⟩
  by_cases z : j = k
  · subst z
    refine ⟨q, up_eq _ _ _, key h7 (fun x c _ hg => hg) (fun x hx => ?_)⟩
    rcases hx with (hx | hx) | hx
    · exact Or.inl hx
    · rw [hlen] at hx
      simp at hx
      exact Or.inr (by omega)
    · have hx2 : ((h ++ [cA 4 n V] ++ X) ++ X').length = h.length + 1 + X.length + X'.length := by rw [List.length_append, hlen]
      rw [hx2, hlen] at hx
      exact Or.inr (by omega)
  · obtain ⟨q0, g1, g2⟩ := h4 j (by omega)
    refine ⟨q0, by rw [up_ne _ _ z]; exact g1, key g2 (fun x c _ hg => hl_app hg) (fun x hx => ?_)⟩
    rcases hx with hx | hx
    · exact Or.inl hx
    · rw [hlen] at hx
      simp at hx
      exact Or.inr (by omega)
theorem vfl_end (hv : vfl A h L hh n V n e ch a b) (hA : okA A h) (hl : 127 ≤ L) (hn : n ≤ 24) (he : e ≤ 20) (hS : sumN n (fun k => vsz e (ch k)) ≤ 29999) {a' b' : Nat} (ha : a + 2 ≤ a') (hb : b + n + 9 ≤ b') : vres A h (e + 1) (vnest n ch) a' b' (.ref hh.length) (hh ++ [cNest (.ref L) 0 (n : Int) ((1 + sumN n (fun k => vsz e (ch k)) : Nat) : Int) ((1 + maxN n (fun k => vlv e (ch k)) : Nat) : Int)]) := by
  obtain ⟨rfl, X, rfl, h1, h2, h4⟩ := hv
  have hlen : (h ++ [cA 4 n V] ++ X).length = h.length + 1 + X.length := by simp; omega
  refine ⟨_, [cA 4 n V] ++ X ++ [cNest (.ref h.length) 0 (n : Int) ((1 + sumN n (fun k => vsz e (ch k)) : Nat) : Int) ((1 + maxN n (fun k => vlv e (ch k)) : Nat) : Int)], rfl, by simp only [List.append_assoc], by simp; omega, ?_, ?_⟩
  · rw [sl_app, sl_app]
    show (n + 0) + mj_sl X + (9 + 0) ≤ b'
    omega
  · have hin : ∀ x, h.length ≤ x → x < h.length + 2 + X.length → newA A h (h ++ [cA 4 n V] ++ X ++ [cNest (.ref h.length) 0 (n : Int) ((1 + sumN n (fun k => vsz e (ch k)) : Nat) : Int) ((1 + maxN n (fun k => vlv e (ch k)) : Nat) : Int)]) x := fun x z1 z2 => Or.inr ⟨z1, by rw [List.length_append, hlen]; show _ < _ + 1; omega⟩
    refine cv_nest (fr := 0) (a := h.length) (n := n) (g := V) hn (by omega) (hin _ (by omega) (by omega)) he hS hl_new (by omega) (hl_app (hl_app hl_new)) (by omega) (hin _ (by omega) (by omega)) (by omega) (by omega) (fun k hk => ?_)
    obtain ⟨q, g1, g2⟩ := h4 k hk
    refine ⟨q, by rw [Nat.zero_add]; exact g1, cv_keep (fun x c hx hg => ⟨?_, hl_app hg⟩) g2⟩
    rcases hx with hx | hx
    · exact Or.inl hx
    · rw [hlen] at hx
      simp at hx
      exact hin x (by omega) (by omega)
end VFL
theorem vres_get {A : Nat → Prop} {h h' : mj_H} {e a b : Nat} {w : VV} {r : Value} (hr : vres A h e w a b r h') {x : Nat} {c : mj_E} (hg : h[x]? = some c) : h'[x]? = some c := by
  obtain ⟨q, X, -, rfl, -⟩ := hr
  exact hl_app hg
theorem vres_cv {A : Nat → Prop} {h h' : mj_H} {e a b q : Nat} {w : VV} (hr : vres A h e w a b (.ref q) h') : cv (newA A h h') h' e q w := by
  obtain ⟨q', X, hq, rfl, -, -, h1⟩ := hr
  cases hq
  exact h1
theorem vsz_1v {e : Nat} {v : VV} (h : vk v ≤ 1) : vsz (e + 1) v = 1 := vsz_1 h
/-- an item is no larger than the bound of sizes -/
theorem vsz_vit {e i : Nat} {v : VV} (hw : vwf (e + 1) v) (hs : vsz (e + 1) v ≤ 1000) (hi : vk v ≤ 1 ∨ i < vm v) : vsz (e + 1) (vit v i) ≤ 1000 := by
  have h7 := hw.1.1
  by_cases a : vk v ≤ 1
  · rw [vit_1 a]; exact hs
  · by_cases b : vk v = 7
    · rw [vit_7 b]
      have hk := hw.2 b i (by omega)
      have h1 := vsz_kid (e := e) b (show i < vm v by omega)
      rw [vsz_up hk]
      omega
    · by_cases c : vk v = 6
      · rw [vit_6 c, vq_sz (by show 2 ≤ 4; omega) (by show 4 ≤ 6; omega), vq_row (by omega)]
        have := vw1_m hw.1
        omega
      · rw [vit_r (by omega) (by omega), vsz_1 (by show (if vk v = 3 then 1 else 0) ≤ 1; split <;> omega)]
        omega
/-- ? : the items unlike all ahead of them -/
abbrev isame (d : Nat) (v : VV) : Nat → Nat → Bool := fun a b => vsame d (vit v a) (vit v b)
def m_unl (d : Nat) (v : VV) : Nat ⊕ VV := if vk v ≤ 1 then .inr v else if vk v ≤ 5 then .inr (vpick v (unq (nsame v) (vm v)).2 (unq (nsame v) (vm v)).1) else .inr (vnest (unq (isame d v) (vm v)).1 (fun k => vit v ((unq (isame d v) (vm v)).2 k)))
/-- its room: cells and slots -/
def m_unla (d : Nat) (v : VV) : Nat := if vk v ≤ 5 then 2 else (unq (isame d v) (vm v)).1 + 2
def m_unlb (d : Nat) (v : VV) : Nat := if vk v ≤ 5 then (unq (nsame v) (vm v)).1 + 9 else 10 * (unq (isame d v) (vm v)).1 + 9
set_option maxRecDepth 20000 in
theorem pm_X3_unlike : mj_mmof pg_ms 122 = some ((⟨"ArrayCalculator$OneAct", "unlike", "(LArrayCalculator$Value;)LArrayCalculator$Value;"⟩, prog_5_method_11_code, 5, (Option.some (Jvm.ClassFile.FieldType.object "ArrayCalculator$Value"))), 3, false, mj_dec prog_5_method_11_code) := rfl
theorem dm_X3_unlike_0 : mj_dec prog_5_method_11_code 0 = some (.aload_n 1, 1) := by decide +kernel
theorem dm_X3_unlike_1 : mj_dec prog_5_method_11_code 1 = some (.invokevirtual 139, 3) := by decide +kernel
theorem dm_X3_unlike_4 : mj_dec prog_5_method_11_code 4 = some (.ifCond .eq 5, 3) := by decide +kernel
theorem dm_X3_unlike_7 : mj_dec prog_5_method_11_code 7 = some (.aload_n 1, 1) := by decide +kernel
theorem dm_X3_unlike_8 : mj_dec prog_5_method_11_code 8 = some (.areturn, 1) := by decide +kernel
theorem dm_X3_unlike_9 : mj_dec prog_5_method_11_code 9 = some (.aload_n 1, 1) := by decide +kernel
theorem dm_X3_unlike_10 : mj_dec prog_5_method_11_code 10 = some (.invokevirtual 126, 3) := by decide +kernel
theorem dm_X3_unlike_13 : mj_dec prog_5_method_11_code 13 = some (.ifCond .eq 17, 3) := by decide +kernel
theorem dm_X3_unlike_16 : mj_dec prog_5_method_11_code 16 = some (.aload_n 1, 1) := by decide +kernel
theorem dm_X3_unlike_17 : mj_dec prog_5_method_11_code 17 = some (.aload_n 0, 1) := by decide +kernel
theorem dm_X3_unlike_18 : mj_dec prog_5_method_11_code 18 = some (.getfield 9, 3) := by decide +kernel
theorem dm_X3_unlike_21 : mj_dec prog_5_method_11_code 21 = some (.aload_n 0, 1) := by decide +kernel
theorem dm_X3_unlike_22 : mj_dec prog_5_method_11_code 22 = some (.aload_n 1, 1) := by decide +kernel
theorem dm_X3_unlike_23 : mj_dec prog_5_method_11_code 23 = some (.invokevirtual 157, 3) := by decide +kernel
theorem dm_X3_unlike_26 : mj_dec prog_5_method_11_code 26 = some (.invokevirtual 142, 3) := by decide +kernel
theorem dm_X3_unlike_29 : mj_dec prog_5_method_11_code 29 = some (.areturn, 1) := by decide +kernel
theorem dm_X3_unlike_30 : mj_dec prog_5_method_11_code 30 = some (.iconst 0, 1) := by decide +kernel
theorem dm_X3_unlike_31 : mj_dec prog_5_method_11_code 31 = some (.istore_n 2, 1) := by decide +kernel
theorem dm_X3_unlike_32 : mj_dec prog_5_method_11_code 32 = some (.iconst 0, 1) := by decide +kernel
theorem dm_X3_unlike_33 : mj_dec prog_5_method_11_code 33 = some (.istore_n 3, 1) := by decide +kernel
theorem dm_X3_unlike_34 : mj_dec prog_5_method_11_code 34 = some (.iload_n 3, 1) := by decide +kernel
theorem dm_X3_unlike_35 : mj_dec prog_5_method_11_code 35 = some (.aload_n 1, 1) := by decide +kernel
theorem dm_X3_unlike_36 : mj_dec prog_5_method_11_code 36 = some (.getfield 76, 3) := by decide +kernel
theorem dm_X3_unlike_39 : mj_dec prog_5_method_11_code 39 = some (.if_icmp .ge 56, 3) := by decide +kernel
theorem dm_X3_unlike_42 : mj_dec prog_5_method_11_code 42 = some (.iconst 0, 1) := by decide +kernel
theorem dm_X3_unlike_43 : mj_dec prog_5_method_11_code 43 = some (.istore 4, 2) := by decide +kernel
theorem dm_X3_unlike_45 : mj_dec prog_5_method_11_code 45 = some (.iload 4, 2) := by decide +kernel
theorem dm_X3_unlike_47 : mj_dec prog_5_method_11_code 47 = some (.iload_n 2, 1) := by decide +kernel
theorem dm_X3_unlike_48 : mj_dec prog_5_method_11_code 48 = some (.if_icmp .ge 25, 3) := by decide +kernel
theorem dm_X3_unlike_51 : mj_dec prog_5_method_11_code 51 = some (.aload_n 1, 1) := by decide +kernel
theorem dm_X3_unlike_52 : mj_dec prog_5_method_11_code 52 = some (.iload_n 3, 1) := by decide +kernel
theorem dm_X3_unlike_53 : mj_dec prog_5_method_11_code 53 = some (.aload_n 1, 1) := by decide +kernel
theorem dm_X3_unlike_54 : mj_dec prog_5_method_11_code 54 = some (.aload_n 0, 1) := by decide +kernel
theorem dm_X3_unlike_55 : mj_dec prog_5_method_11_code 55 = some (.getfield 9, 3) := by decide +kernel
theorem dm_X3_unlike_58 : mj_dec prog_5_method_11_code 58 = some (.iload 4, 2) := by decide +kernel
theorem dm_X3_unlike_60 : mj_dec prog_5_method_11_code 60 = some (.iaload, 1) := by decide +kernel
theorem dm_X3_unlike_61 : mj_dec prog_5_method_11_code 61 = some (.invokestatic 169, 3) := by decide +kernel
theorem dm_X3_unlike_64 : mj_dec prog_5_method_11_code 64 = some (.ifCond .ne 9, 3) := by decide +kernel
theorem dm_X3_unlike_67 : mj_dec prog_5_method_11_code 67 = some (.iinc 4 1, 3) := by decide +kernel
theorem dm_X3_unlike_70 : mj_dec prog_5_method_11_code 70 = some (.goto (-25), 3) := by decide +kernel
theorem dm_X3_unlike_73 : mj_dec prog_5_method_11_code 73 = some (.iload 4, 2) := by decide +kernel
theorem dm_X3_unlike_75 : mj_dec prog_5_method_11_code 75 = some (.iload_n 2, 1) := by decide +kernel
theorem dm_X3_unlike_76 : mj_dec prog_5_method_11_code 76 = some (.if_icmp .ne 13, 3) := by decide +kernel
theorem dm_X3_unlike_79 : mj_dec prog_5_method_11_code 79 = some (.aload_n 0, 1) := by decide +kernel
theorem dm_X3_unlike_80 : mj_dec prog_5_method_11_code 80 = some (.getfield 9, 3) := by decide +kernel
theorem dm_X3_unlike_83 : mj_dec prog_5_method_11_code 83 = some (.iload_n 2, 1) := by decide +kernel
theorem dm_X3_unlike_84 : mj_dec prog_5_method_11_code 84 = some (.iload_n 3, 1) := by decide +kernel
theorem dm_X3_unlike_85 : mj_dec prog_5_method_11_code 85 = some (.iastore, 1) := by decide +kernel
theorem dm_X3_unlike_86 : mj_dec prog_5_method_11_code 86 = some (.iinc 2 1, 3) := by decide +kernel
theorem dm_X3_unlike_89 : mj_dec prog_5_method_11_code 89 = some (.iinc 3 1, 3) := by decide +kernel
theorem dm_X3_unlike_92 : mj_dec prog_5_method_11_code 92 = some (.goto (-58), 3) := by decide +kernel
theorem dm_X3_unlike_95 : mj_dec prog_5_method_11_code 95 = some (.iload_n 2, 1) := by decide +kernel
theorem dm_X3_unlike_96 : mj_dec prog_5_method_11_code 96 = some (.anewarray 36, 3) := by decide +kernel
theorem dm_X3_unlike_99 : mj_dec prog_5_method_11_code 99 = some (.astore_n 3, 1) := by decide +kernel
theorem dm_X3_unlike_100 : mj_dec prog_5_method_11_code 100 = some (.iconst 0, 1) := by decide +kernel
theorem dm_X3_unlike_101 : mj_dec prog_5_method_11_code 101 = some (.istore 4, 2) := by decide +kernel
theorem dm_X3_unlike_103 : mj_dec prog_5_method_11_code 103 = some (.iload 4, 2) := by decide +kernel
theorem dm_X3_unlike_105 : mj_dec prog_5_method_11_code 105 = some (.iload_n 2, 1) := by decide +kernel
theorem dm_X3_unlike_106 : mj_dec prog_5_method_11_code 106 = some (.if_icmp .ge 24, 3) := by decide +kernel
theorem dm_X3_unlike_109 : mj_dec prog_5_method_11_code 109 = some (.aload_n 3, 1) := by decide +kernel
theorem dm_X3_unlike_110 : mj_dec prog_5_method_11_code 110 = some (.iload 4, 2) := by decide +kernel
theorem dm_X3_unlike_112 : mj_dec prog_5_method_11_code 112 = some (.aload_n 1, 1) := by decide +kernel
theorem dm_X3_unlike_113 : mj_dec prog_5_method_11_code 113 = some (.aload_n 0, 1) := by decide +kernel
theorem dm_X3_unlike_114 : mj_dec prog_5_method_11_code 114 = some (.getfield 9, 3) := by decide +kernel
theorem dm_X3_unlike_117 : mj_dec prog_5_method_11_code 117 = some (.iload 4, 2) := by decide +kernel
theorem dm_X3_unlike_119 : mj_dec prog_5_method_11_code 119 = some (.iaload, 1) := by decide +kernel
theorem dm_X3_unlike_120 : mj_dec prog_5_method_11_code 120 = some (.invokevirtual 79, 3) := by decide +kernel
theorem dm_X3_unlike_123 : mj_dec prog_5_method_11_code 123 = some (.aastore, 1) := by decide +kernel
theorem dm_X3_unlike_124 : mj_dec prog_5_method_11_code 124 = some (.iinc 4 1, 3) := by decide +kernel
theorem dm_X3_unlike_127 : mj_dec prog_5_method_11_code 127 = some (.goto (-24), 3) := by decide +kernel
theorem dm_X3_unlike_130 : mj_dec prog_5_method_11_code 130 = some (.aload_n 3, 1) := by decide +kernel
theorem dm_X3_unlike_131 : mj_dec prog_5_method_11_code 131 = some (.invokestatic 165, 3) := by decide +kernel
theorem dm_X3_unlike_134 : mj_dec prog_5_method_11_code 134 = some (.areturn, 1) := by decide +kernel
theorem o_unlike {xt : mj_X} {d e p : Nat} {A : Nat → Prop} {h : mj_H} {v : VV} {f1 : Nat → Value} (hx1 : xt 1 = some (.long, 0, f1)) (hd : 4 * e + 16 ≤ d) (hl : 127 ≤ h.length) (hA : okA A h) (hH : actH h) (hv : cv A h (e + 1) p v) (he : e ≤ 19) (hset : vsz (e + 1) v ≤ 1000) : pgV xt d 122 [.ref 17, .ref p] h (aact A h (e + 2) (m_unl (e + 1) v) (m_unla (e + 1) v) (m_unlb (e + 1) v)) := by
  have h17 := hH.1
  obtain ⟨pf0, h18⟩ := hH.2.1
  obtain ⟨nf0, h19⟩ := hH.2.2.1
  have hcv := vw1_c hv.1
  obtain ⟨row, fr, vals, hp, hp2, hpA, hvk, hvm, hvc, hvs, hvl⟩ := cv_val hv
  have hpb := hA p hpA
  have he1 : e ≤ 20 := by omega
  have hcz := hv.1.1
  refine x_enter pm_X3_unlike (L0 := [(0, .ref 17), (1, .ref p)]) rfl (Nat.le_of_ble_eq_true rfl) (by omega) ?_
  refine me1 (pc' := 1) (L' := [(0, .ref 17), (1, .ref p)]) (S' := [.ref p]) dm_X3_unlike_0 rfl rfl rfl rfl ?_
  refine x_cp (pc' := 4) (v := zz (decide (vk v ≤ 1))) (rest := []) dm_X3_unlike_1 rfl (g_inv (As := []) (S := []) hp rfl rfl rfl (by omega)) rfl rfl rfl (c_isOne (by omega) hv) ?_
  refine y_zeq (c := decide (vk v ≤ 1)) (t := 9) (pc' := 7) dm_X3_unlike_4 rfl rfl (fun hb1 => ?_) (fun hb1 => ?_)
  · replace hb1 := dF hb1
    refine me1 (pc' := 10) (L' := [(0, .ref 17), (1, .ref p)]) (S' := [.ref p]) dm_X3_unlike_9 rfl rfl rfl rfl ?_
    refine x_cp (pc' := 13) (v := zz (decide (2 ≤ vk v ∧ vk v ≤ 5))) (rest := []) dm_X3_unlike_10 rfl (g_inv (As := []) (S := []) hp rfl rfl rfl (by omega)) rfl rfl rfl (c_isRow (by omega) hv) ?_
    refine y_zeq (c := decide (2 ≤ vk v ∧ vk v ≤ 5)) (t := 30) (pc' := 16) dm_X3_unlike_13 rfl rfl (fun hb2 => ?_) (fun hb2 => ?_)
    · replace hb2 := dF hb2
      refine me0 (pc' := 31) (S' := [ii 0]) dm_X3_unlike_30 rfl rfl rfl rfl ?_
      refine me1 (pc' := 32) (L' := [(2, ii 0), (0, .ref 17), (1, .ref p)]) (S' := []) dm_X3_unlike_31 rfl rfl rfl rfl ?_
      refine me0 (pc' := 33) (S' := [ii 0]) dm_X3_unlike_32 rfl rfl rfl rfl ?_
      refine me1 (pc' := 34) (L' := [(3, ii 0), (2, ii 0), (0, .ref 17), (1, .ref p)]) (S' := []) dm_X3_unlike_33 rfl rfl rfl rfl ?_
      have lp34 : ∀ (n34 : Nat) (k : Nat) (n : Nat) (P : Nat → Int), vm v - k = n34 → (k ≤ vm v) → (n = (unq (isame (e + 1) v) k).1) → (∀ j, j < n → P j = (((unq (isame (e + 1) v) k).2 j : Nat) : Int)) → pgE xt (d - 1) 3 5 false (Option.some (Jvm.ClassFile.FieldType.object "ArrayCalculator$Value")) (mj_dec prog_5_method_11_code) 34 [(0, .ref 17), (1, .ref p), (2, ii ((n : Nat) : Int)), (3, ii (k : Int))] [] ((h).set 18 (cI 144 P)) (fun r h' => ∃ x, r = some x ∧ aact A h (e + 2) (m_unl (e + 1) v) (m_unla (e + 1) v) (m_unlb (e + 1) v) x h') := by
        intro n34
        induction n34 using Nat.strongRecOn with
        | ind n34 ih34 =>
          intro k n P hm34 hk hn hP
          have hul := unq_le (isame (e + 1) v) k
          have hun := hul.1
          replace hul := hul.2
          refine me1 (pc' := 35) (L' := [(0, .ref 17), (1, .ref p), (2, ii ((n : Nat) : Int)), (3, ii (k : Int))]) (S' := [ii (k : Int)]) dm_X3_unlike_34 rfl rfl rfl rfl ?_
          refine me1 (pc' := 36) (L' := [(0, .ref 17), (1, .ref p), (2, ii ((n : Nat) : Int)), (3, ii (k : Int))]) (S' := [.ref p, ii (k : Int)]) dm_X3_unlike_35 rfl rfl rfl rfl ?_
          refine me3 (pc' := 39) (S' := [ii (vm v : Int), ii (k : Int)]) dm_X3_unlike_36 (g_get (v := ii (vm v : Int)) (hl_ne (by omega) hp) rfl rfl (by omega)) rfl rfl rfl ?_
          refine y_2ge (a := (k : Int)) (b := (vm v : Int)) (t := 95) (pc' := 42) dm_X3_unlike_39 rfl rfl (by omega) (fun hb3 => ?_) (fun hb3 => ?_)
          · have hkm : k = vm v := by omega
            rw [hkm] at hn hP hul hun
            have hs1 : scrS h (h.set 18 (cI 144 P)) := scrS_set (by unfold scr; decide) h18 rfl
            have hA1 := okA_scr hA hs1
            have hv1 := cv_scr hA hs1 hv
            have hn24 : n ≤ 24 := by have := hv.1.2.2.2.2.1; omega
            have hS : sumN n (fun k => vsz (e + 1) ((fun k => vit v ((unq (isame (e + 1) v) (vm v)).2 k)) k)) ≤ 29999 := by have h9 := sumN_bd (n := n) (b := 1000) (f := fun k => vsz (e + 1) ((fun k => vit v ((unq (isame (e + 1) v) (vm v)).2 k)) k)) (fun k hk => vsz_vit (cv_wf hv) hset (Or.inr (by have := hul k (by omega); omega))); have := Nat.mul_le_mul_right 1000 hn24; omega
            skip
            refine me1 (pc' := 96) (L' := [(0, .ref 17), (1, .ref p), (2, ii ((n : Nat) : Int)), (3, ii (k : Int))]) (S' := [ii ((n : Nat) : Int)]) dm_X3_unlike_95 rfl rfl rfl rfl ?_
            refine me3 (pc' := 99) (S' := [.ref h.length]) (h1 := ((h).set 18 (cI 144 P)) ++ [cA 4 n (fun _ => none)]) dm_X3_unlike_96 (yh_newA rfl (by omega) (by omega) (by omega) (by simp)) rfl rfl rfl ?_
            refine me1 (pc' := 100) (L' := [(3, .ref h.length), (0, .ref 17), (1, .ref p), (2, ii ((n : Nat) : Int))]) (S' := []) dm_X3_unlike_99 rfl rfl rfl rfl ?_
            refine me0 (pc' := 101) (S' := [ii 0]) dm_X3_unlike_100 rfl rfl rfl rfl ?_
            refine me1 (pc' := 103) (L' := [(4, ii 0), (3, .ref h.length), (0, .ref 17), (1, .ref p), (2, ii ((n : Nat) : Int))]) (S' := []) dm_X3_unlike_101 rfl rfl rfl rfl ?_
            have lp103 : ∀ (n103 : Nat) (t : Nat) (hh : mj_H) (V : Nat → Option Nat), n - t = n103 → (t ≤ n) → (vfl A (h.set 18 (cI 144 P)) h.length hh n V t (e + 1) (fun k => vit v ((unq (isame (e + 1) v) (vm v)).2 k)) t (9 * t)) → pgE xt (d - 1) 3 5 false (Option.some (Jvm.ClassFile.FieldType.object "ArrayCalculator$Value")) (mj_dec prog_5_method_11_code) 103 [(0, .ref 17), (1, .ref p), (2, ii ((n : Nat) : Int)), (3, .ref h.length), (4, ii (t : Int))] [] hh (fun r h' => ∃ x, r = some x ∧ aact A h (e + 2) (m_unl (e + 1) v) (m_unla (e + 1) v) (m_unlb (e + 1) v) x h') := by
              intro n103
              induction n103 using Nat.strongRecOn with
              | ind n103 ih103 =>
                intro t hh V hm103 ht hV
                have hlh := vfl_len hV
                refine me1 (pc' := 105) (L' := [(0, .ref 17), (1, .ref p), (2, ii ((n : Nat) : Int)), (3, .ref h.length), (4, ii (t : Int))]) (S' := [ii (t : Int)]) dm_X3_unlike_103 rfl rfl rfl rfl ?_
                refine me1 (pc' := 106) (L' := [(0, .ref 17), (1, .ref p), (2, ii ((n : Nat) : Int)), (3, .ref h.length), (4, ii (t : Int))]) (S' := [ii ((n : Nat) : Int), ii (t : Int)]) dm_X3_unlike_105 rfl rfl rfl rfl ?_
                refine y_2ge (a := (t : Int)) (b := ((n : Nat) : Int)) (t := 130) (pc' := 109) dm_X3_unlike_106 rfl rfl (by omega) (fun hb4 => ?_) (fun hb4 => ?_)
                · refine me1 (pc' := 131) (L' := [(0, .ref 17), (1, .ref p), (2, ii ((n : Nat) : Int)), (3, .ref h.length), (4, ii (t : Int))]) (S' := [.ref h.length]) dm_X3_unlike_130 rfl rfl rfl rfl ?_
                  have hVn : vfl A (h.set 18 (cI 144 P)) h.length hh n V n (e + 1) (fun k => vit v ((unq (isame (e + 1) v) (vm v)).2 k)) n (9 * n) := (show t = n by omega) ▸ hV
                  refine x_cv (pc' := 134) (rest := []) dm_X3_unlike_131 rfl (g_invs (As := [.ref h.length]) (S := []) rfl rfl rfl) rfl rfl rfl (c_nest (A := newA A ((h.set 18 (cI 144 P)) ++ [cA 4 n V]) hh) (e := e + 1) (n := n) (g := V) (ch := (fun k => vit v ((unq (isame (e + 1) v) (vm v)).2 k))) (q := hh.length) (by omega) (by omega) rfl (fun z => by have z1 := vfl_okA hVn hA1 (by omega) _ z; omega) (vfl_arr hVn) (by omega) (by omega) (by omega) hS (vfl_kid hVn)) ?_
                  rintro _ _ ⟨rfl, rfl⟩
                  refine y_ret (r := some (.ref hh.length)) dm_X3_unlike_134 rfl rfl rfl ?_
                  have htn : t = n := by omega
                  skip
                  refine ⟨_, rfl, _, hs1, actH_18 hH _, ?_⟩
                  rw [show m_unl (e + 1) v = .inr (vnest n (fun k => vit v ((unq (isame (e + 1) v) (vm v)).2 k))) by unfold m_unl; rw [if_neg (by omega), if_neg (by omega), ← hn]]
                  unfold m_unla m_unlb
                  rw [if_neg (by omega), if_neg (by omega), ← hn]
                  exact vfl_end hVn hA1 hl hn24 (by omega) hS (by omega) (by omega)
                · have hut := hul t (by omega)
                  have hPt := hP t (by omega)
                  refine me1 (pc' := 110) (L' := [(0, .ref 17), (1, .ref p), (2, ii ((n : Nat) : Int)), (3, .ref h.length), (4, ii (t : Int))]) (S' := [.ref h.length]) dm_X3_unlike_109 rfl rfl rfl rfl ?_
                  refine me1 (pc' := 112) (L' := [(0, .ref 17), (1, .ref p), (2, ii ((n : Nat) : Int)), (3, .ref h.length), (4, ii (t : Int))]) (S' := [ii (t : Int), .ref h.length]) dm_X3_unlike_110 rfl rfl rfl rfl ?_
                  refine me1 (pc' := 113) (L' := [(0, .ref 17), (1, .ref p), (2, ii ((n : Nat) : Int)), (3, .ref h.length), (4, ii (t : Int))]) (S' := [.ref p, ii (t : Int), .ref h.length]) dm_X3_unlike_112 rfl rfl rfl rfl ?_
                  refine me1 (pc' := 114) (L' := [(0, .ref 17), (1, .ref p), (2, ii ((n : Nat) : Int)), (3, .ref h.length), (4, ii (t : Int))]) (S' := [.ref 17, .ref p, ii (t : Int), .ref h.length]) dm_X3_unlike_113 rfl rfl rfl rfl ?_
                  refine me3 (pc' := 117) (S' := [.ref 18, .ref p, ii (t : Int), .ref h.length]) dm_X3_unlike_114 (g_get (v := .ref 18) (vfl_get hV (hl_ne (by decide) h17)) rfl rfl (by decide)) rfl rfl rfl ?_
                  refine me1 (pc' := 119) (L' := [(0, .ref 17), (1, .ref p), (2, ii ((n : Nat) : Int)), (3, .ref h.length), (4, ii (t : Int))]) (S' := [ii (t : Int), .ref 18, .ref p, ii (t : Int), .ref h.length]) dm_X3_unlike_117 rfl rfl rfl rfl ?_
                  refine me3 (pc' := 120) (S' := [ii (P t), .ref p, ii (t : Int), .ref h.length]) dm_X3_unlike_119 (yh_iald (v := P t) (vfl_get hV (hl_set (hl_lt h18))) (by omega) (by omega) (by omega) (by decide) rfl) rfl rfl rfl ?_
                  refine pg_st0 (S' := [ii (((unq (isame (e + 1) v) (vm v)).2 t : Nat) : Int), .ref p, ii (t : Int), .ref h.length]) (congrArg (fun z => ii z :: [.ref p, ii (t : Int), .ref h.length]) (hPt)) ?_
                  refine x_cv (pc' := 123) (rest := [ii (t : Int), .ref h.length]) dm_X3_unlike_120 rfl (g_inv (As := [ii (((unq (isame (e + 1) v) (vm v)).2 t : Nat) : Int)]) (S := [ii (t : Int), .ref h.length]) (vfl_get hV (hl_ne (by omega) hp)) rfl rfl rfl (by omega)) rfl rfl rfl ((show pgV xt (d - 1) _ _ _ (vres (newA A ((h.set 18 (cI 144 P)) ++ [cA 4 n V]) hh) hh (e + 1) ((fun k => vit v ((unq (isame (e + 1) v) (vm v)).2 k)) t) 1 9) from c_itemAt hx1 (by omega) (by omega) (vfl_cv hV hv1) (Or.inr (by omega)) (by omega))) ?_
                  rintro x h3 hres
                  obtain ⟨q3, rfl⟩ := vres_ref hres
                  obtain ⟨row3, fr3, vals3, hq3, hq32, -⟩ := cv_valE (vres_cv hres)
                  refine me3 (pc' := 124) (S' := []) (h1 := (h3).set h.length (cA 4 n (va_up V t (some q3)))) dm_X3_unlike_123 (yh_aasr (j := (t : Int)) rfl (vres_get hres (vfl_arr hV)) hq3 (by omega) (by omega) (by omega) (by omega) (by omega)) rfl rfl rfl ?_
                  refine y_iinc (pc' := 127) (L' := [(4, ii ((t : Int) + 1)), (0, .ref 17), (1, .ref p), (2, ii ((n : Nat) : Int)), (3, .ref h.length)]) dm_X3_unlike_124 (y_incp (a := (t : Int)) (c := 1) rfl rfl (by decide)) rfl ?_
                  refine me2 (pc' := 103) (S' := []) dm_X3_unlike_127 rfl rfl rfl ?_
                  exact pg_sub (L := [(0, .ref 17), (1, .ref p), (2, ii ((n : Nat) : Int)), (3, .ref h.length), (4, ii ((t + 1) : Int))]) rfl rfl rfl (ih103 (n - (t + 1)) (by omega) (t + 1) ((h3).set h.length (cA 4 n (va_up V t (some q3)))) (va_up V t (some q3)) rfl (by omega) (vfl_s hV hA1 hres))
            exact pg_sub (L := [(0, .ref 17), (1, .ref p), (2, ii ((n : Nat) : Int)), (3, .ref h.length), (4, ii (0 : Int))]) rfl rfl rfl (lp103 _ 0 (((h).set 18 (cI 144 P)) ++ [cA 4 n (fun _ => none)]) (fun _ => none) rfl (Nat.zero_le _) (vfl_0 (by simp)))
          · refine me0 (pc' := 43) (S' := [ii 0]) dm_X3_unlike_42 rfl rfl rfl rfl ?_
            refine me1 (pc' := 45) (L' := [(4, ii 0), (0, .ref 17), (1, .ref p), (2, ii ((n : Nat) : Int)), (3, ii (k : Int))]) (S' := []) dm_X3_unlike_43 rfl rfl rfl rfl ?_
            have lp45 : ∀ (n45 : Nat) (i : Nat), n - i = n45 → (i ≤ n) → (∀ j, j < i → isame (e + 1) v k ((unq (isame (e + 1) v) k).2 j) = false) → pgE xt (d - 1) 3 5 false (Option.some (Jvm.ClassFile.FieldType.object "ArrayCalculator$Value")) (mj_dec prog_5_method_11_code) 45 [(0, .ref 17), (1, .ref p), (2, ii ((n : Nat) : Int)), (3, ii (k : Int)), (4, ii (i : Int))] [] ((h).set 18 (cI 144 P)) (fun r h' => ∃ x, r = some x ∧ aact A h (e + 2) (m_unl (e + 1) v) (m_unla (e + 1) v) (m_unlb (e + 1) v) x h') := by
              intro n45
              induction n45 using Nat.strongRecOn with
              | ind n45 ih45 =>
                intro i hm45 hi hno
                refine me1 (pc' := 47) (L' := [(0, .ref 17), (1, .ref p), (2, ii ((n : Nat) : Int)), (3, ii (k : Int)), (4, ii (i : Int))]) (S' := [ii (i : Int)]) dm_X3_unlike_45 rfl rfl rfl rfl ?_
                refine me1 (pc' := 48) (L' := [(0, .ref 17), (1, .ref p), (2, ii ((n : Nat) : Int)), (3, ii (k : Int)), (4, ii (i : Int))]) (S' := [ii ((n : Nat) : Int), ii (i : Int)]) dm_X3_unlike_47 rfl rfl rfl rfl ?_
                refine y_2ge (a := (i : Int)) (b := ((n : Nat) : Int)) (t := 73) (pc' := 51) dm_X3_unlike_48 rfl rfl (by omega) (fun hb5 => ?_) (fun hb5 => ?_)
                · refine me1 (pc' := 75) (L' := [(0, .ref 17), (1, .ref p), (2, ii ((n : Nat) : Int)), (3, ii (k : Int)), (4, ii (i : Int))]) (S' := [ii (i : Int)]) dm_X3_unlike_73 rfl rfl rfl rfl ?_
                  refine me1 (pc' := 76) (L' := [(0, .ref 17), (1, .ref p), (2, ii ((n : Nat) : Int)), (3, ii (k : Int)), (4, ii (i : Int))]) (S' := [ii ((n : Nat) : Int), ii (i : Int)]) dm_X3_unlike_75 rfl rfl rfl rfl ?_
                  refine y_2ne (a := (i : Int)) (b := ((n : Nat) : Int)) (t := 89) (pc' := 79) dm_X3_unlike_76 rfl rfl (by omega) (fun hb6 => ?_) (fun hb6 => ?_)
                  · have hsaw : allN (unq (isame (e + 1) v) k).1 (fun j => !(isame (e + 1) v k ((unq (isame (e + 1) v) k).2 j))) = false := by first | (exfalso; omega) | exact allN_f (k := i) (by omega) (by rw [show isame (e + 1) v k ((unq (isame (e + 1) v) k).2 i) = true by assumption]; rfl)
                    refine y_iinc (pc' := 92) (L' := [(3, ii ((k : Int) + 1)), (0, .ref 17), (1, .ref p), (2, ii ((n : Nat) : Int)), (4, ii (i : Int))]) dm_X3_unlike_89 (y_incp (a := (k : Int)) (c := 1) rfl rfl (by decide)) rfl ?_
                    refine me2 (pc' := 34) (S' := []) dm_X3_unlike_92 rfl rfl rfl ?_
                    exact pg_sub (L := [(0, .ref 17), (1, .ref p), (2, ii ((n : Nat) : Int)), (3, ii ((k + 1) : Int))]) rfl rfl rfl (ih34 (vm v - (k + 1)) (by omega) (k + 1) n P rfl (by omega) (by rw [unq_n hsaw]; exact hn) (fun j hj => by rw [unq_n hsaw]; exact hP j hj))
                  · have hsaw : allN (unq (isame (e + 1) v) k).1 (fun j => !(isame (e + 1) v k ((unq (isame (e + 1) v) k).2 j))) = true := allN_iff.mpr (fun j hj => by rw [hno j (by omega)]; rfl)
                    refine me1 (pc' := 80) (L' := [(0, .ref 17), (1, .ref p), (2, ii ((n : Nat) : Int)), (3, ii (k : Int)), (4, ii (i : Int))]) (S' := [.ref 17]) dm_X3_unlike_79 rfl rfl rfl rfl ?_
                    refine me3 (pc' := 83) (S' := [.ref 18]) dm_X3_unlike_80 (g_get (v := .ref 18) (hl_ne (by decide) h17) rfl rfl (by decide)) rfl rfl rfl ?_
                    refine me1 (pc' := 84) (L' := [(0, .ref 17), (1, .ref p), (2, ii ((n : Nat) : Int)), (3, ii (k : Int)), (4, ii (i : Int))]) (S' := [ii ((n : Nat) : Int), .ref 18]) dm_X3_unlike_83 rfl rfl rfl rfl ?_
                    refine me1 (pc' := 85) (L' := [(0, .ref 17), (1, .ref p), (2, ii ((n : Nat) : Int)), (3, ii (k : Int)), (4, ii (i : Int))]) (S' := [ii (k : Int), ii ((n : Nat) : Int), .ref 18]) dm_X3_unlike_84 rfl rfl rfl rfl ?_
                    refine me3 (pc' := 86) (S' := []) (h1 := (h).set 18 (cI 144 (va_up P n (k : Int)))) dm_X3_unlike_85 (y_hs (yh_iast (j := ((n : Nat) : Int)) (hl_set (hl_lt h18)) (by omega) (by omega) (by omega) (by decide)) (by rw [show ((n : Nat) : Int).toNat = n from rfl]; rw [List.set_set])) rfl rfl rfl ?_
                    refine y_iinc (pc' := 89) (L' := [(2, ii (((n : Nat) : Int) + 1)), (0, .ref 17), (1, .ref p), (3, ii (k : Int)), (4, ii (i : Int))]) dm_X3_unlike_86 (y_incp (a := ((n : Nat) : Int)) (c := 1) rfl rfl (by decide)) rfl ?_
                    refine y_iinc (pc' := 92) (L' := [(3, ii ((k : Int) + 1)), (2, ii (((n : Nat) : Int) + 1)), (0, .ref 17), (1, .ref p), (4, ii (i : Int))]) dm_X3_unlike_89 (y_incp (a := (k : Int)) (c := 1) rfl rfl (by decide)) rfl ?_
                    refine me2 (pc' := 34) (S' := []) dm_X3_unlike_92 rfl rfl rfl ?_
                    exact pg_sub (L := [(0, .ref 17), (1, .ref p), (2, ii (((n + 1) : Nat) : Int)), (3, ii ((k + 1) : Int))]) rfl rfl rfl (ih34 (vm v - (k + 1)) (by omega) (k + 1) (n + 1) (va_up P n (k : Int)) rfl (by omega) (by rw [unq_s hsaw, hn]) (fun j hj => by rw [unq_s hsaw, up_at]; show _ = ((va_up (unq (isame (e + 1) v) k).2 (unq (isame (e + 1) v) k).1 k j : Nat) : Int); rw [up_at, ← hn]; by_cases z : j = n; (rw [if_pos z, if_pos z]); (rw [if_neg z, if_neg z]; exact hP j (by omega))))
                · have hui := hul i (by omega)
                  have hPi := hP i (by omega)
                  refine me1 (pc' := 52) (L' := [(0, .ref 17), (1, .ref p), (2, ii ((n : Nat) : Int)), (3, ii (k : Int)), (4, ii (i : Int))]) (S' := [.ref p]) dm_X3_unlike_51 rfl rfl rfl rfl ?_
                  refine me1 (pc' := 53) (L' := [(0, .ref 17), (1, .ref p), (2, ii ((n : Nat) : Int)), (3, ii (k : Int)), (4, ii (i : Int))]) (S' := [ii (k : Int), .ref p]) dm_X3_unlike_52 rfl rfl rfl rfl ?_
                  refine me1 (pc' := 54) (L' := [(0, .ref 17), (1, .ref p), (2, ii ((n : Nat) : Int)), (3, ii (k : Int)), (4, ii (i : Int))]) (S' := [.ref p, ii (k : Int), .ref p]) dm_X3_unlike_53 rfl rfl rfl rfl ?_
                  refine me1 (pc' := 55) (L' := [(0, .ref 17), (1, .ref p), (2, ii ((n : Nat) : Int)), (3, ii (k : Int)), (4, ii (i : Int))]) (S' := [.ref 17, .ref p, ii (k : Int), .ref p]) dm_X3_unlike_54 rfl rfl rfl rfl ?_
                  refine me3 (pc' := 58) (S' := [.ref 18, .ref p, ii (k : Int), .ref p]) dm_X3_unlike_55 (g_get (v := .ref 18) (hl_ne (by decide) h17) rfl rfl (by decide)) rfl rfl rfl ?_
                  refine me1 (pc' := 60) (L' := [(0, .ref 17), (1, .ref p), (2, ii ((n : Nat) : Int)), (3, ii (k : Int)), (4, ii (i : Int))]) (S' := [ii (i : Int), .ref 18, .ref p, ii (k : Int), .ref p]) dm_X3_unlike_58 rfl rfl rfl rfl ?_
                  refine me3 (pc' := 61) (S' := [ii (P i), .ref p, ii (k : Int), .ref p]) dm_X3_unlike_60 (yh_iald (v := P i) (hl_set (hl_lt h18)) (by omega) (by omega) (by omega) (by decide) rfl) rfl rfl rfl ?_
                  refine pg_st0 (S' := [ii (((unq (isame (e + 1) v) k).2 i : Nat) : Int), .ref p, ii (k : Int), .ref p]) (congrArg (fun z => ii z :: [.ref p, ii (k : Int), .ref p]) (hPi)) ?_
                  refine x_cp (pc' := 64) (v := zz (vsame (e + 1) (vit v k) (vit v ((unq (isame (e + 1) v) k).2 i)))) (rest := []) dm_X3_unlike_61 rfl (g_invs (As := [.ref p, ii (k : Int), .ref p, ii (((unq (isame (e + 1) v) k).2 i : Nat) : Int)]) (S := []) rfl rfl rfl) rfl rfl rfl (c_sameItems hx1 (by omega) (cv_set (nA hA (Or.inl (by decide))) hv) (cv_set (nA hA (Or.inl (by decide))) hv) (Or.inr (by omega)) (Or.inr (by omega)) (by omega) (by omega)) ?_
                  refine y_zne (c := vsame (e + 1) (vit v k) (vit v ((unq (isame (e + 1) v) k).2 i))) (t := 73) (pc' := 67) dm_X3_unlike_64 rfl rfl (fun hb7 => ?_) (fun hb7 => ?_)
                  · refine me1 (pc' := 75) (L' := [(0, .ref 17), (1, .ref p), (2, ii ((n : Nat) : Int)), (3, ii (k : Int)), (4, ii (i : Int))]) (S' := [ii (i : Int)]) dm_X3_unlike_73 rfl rfl rfl rfl ?_
                    refine me1 (pc' := 76) (L' := [(0, .ref 17), (1, .ref p), (2, ii ((n : Nat) : Int)), (3, ii (k : Int)), (4, ii (i : Int))]) (S' := [ii ((n : Nat) : Int), ii (i : Int)]) dm_X3_unlike_75 rfl rfl rfl rfl ?_
                    refine y_2ne (a := (i : Int)) (b := ((n : Nat) : Int)) (t := 89) (pc' := 79) dm_X3_unlike_76 rfl rfl (by omega) (fun hb8 => ?_) (fun hb8 => ?_)
                    · have hsaw : allN (unq (isame (e + 1) v) k).1 (fun j => !(isame (e + 1) v k ((unq (isame (e + 1) v) k).2 j))) = false := by first | (exfalso; omega) | exact allN_f (k := i) (by omega) (by rw [show isame (e + 1) v k ((unq (isame (e + 1) v) k).2 i) = true by assumption]; rfl)
                      refine y_iinc (pc' := 92) (L' := [(3, ii ((k : Int) + 1)), (0, .ref 17), (1, .ref p), (2, ii ((n : Nat) : Int)), (4, ii (i : Int))]) dm_X3_unlike_89 (y_incp (a := (k : Int)) (c := 1) rfl rfl (by decide)) rfl ?_
                      refine me2 (pc' := 34) (S' := []) dm_X3_unlike_92 rfl rfl rfl ?_
                      exact pg_sub (L := [(0, .ref 17), (1, .ref p), (2, ii ((n : Nat) : Int)), (3, ii ((k + 1) : Int))]) rfl rfl rfl (ih34 (vm v - (k + 1)) (by omega) (k + 1) n P rfl (by omega) (by rw [unq_n hsaw]; exact hn) (fun j hj => by rw [unq_n hsaw]; exact hP j hj))
                    · have hsaw : allN (unq (isame (e + 1) v) k).1 (fun j => !(isame (e + 1) v k ((unq (isame (e + 1) v) k).2 j))) = true := allN_iff.mpr (fun j hj => by rw [hno j (by omega)]; rfl)
                      refine me1 (pc' := 80) (L' := [(0, .ref 17), (1, .ref p), (2, ii ((n : Nat) : Int)), (3, ii (k : Int)), (4, ii (i : Int))]) (S' := [.ref 17]) dm_X3_unlike_79 rfl rfl rfl rfl ?_
                      refine me3 (pc' := 83) (S' := [.ref 18]) dm_X3_unlike_80 (g_get (v := .ref 18) (hl_ne (by decide) h17) rfl rfl (by decide)) rfl rfl rfl ?_
                      refine me1 (pc' := 84) (L' := [(0, .ref 17), (1, .ref p), (2, ii ((n : Nat) : Int)), (3, ii (k : Int)), (4, ii (i : Int))]) (S' := [ii ((n : Nat) : Int), .ref 18]) dm_X3_unlike_83 rfl rfl rfl rfl ?_
                      refine me1 (pc' := 85) (L' := [(0, .ref 17), (1, .ref p), (2, ii ((n : Nat) : Int)), (3, ii (k : Int)), (4, ii (i : Int))]) (S' := [ii (k : Int), ii ((n : Nat) : Int), .ref 18]) dm_X3_unlike_84 rfl rfl rfl rfl ?_
                      refine me3 (pc' := 86) (S' := []) (h1 := (h).set 18 (cI 144 (va_up P n (k : Int)))) dm_X3_unlike_85 (y_hs (yh_iast (j := ((n : Nat) : Int)) (hl_set (hl_lt h18)) (by omega) (by omega) (by omega) (by decide)) (by rw [show ((n : Nat) : Int).toNat = n from rfl]; rw [List.set_set])) rfl rfl rfl ?_
                      refine y_iinc (pc' := 89) (L' := [(2, ii (((n : Nat) : Int) + 1)), (0, .ref 17), (1, .ref p), (3, ii (k : Int)), (4, ii (i : Int))]) dm_X3_unlike_86 (y_incp (a := ((n : Nat) : Int)) (c := 1) rfl rfl (by decide)) rfl ?_
                      refine y_iinc (pc' := 92) (L' := [(3, ii ((k : Int) + 1)), (2, ii (((n : Nat) : Int) + 1)), (0, .ref 17), (1, .ref p), (4, ii (i : Int))]) dm_X3_unlike_89 (y_incp (a := (k : Int)) (c := 1) rfl rfl (by decide)) rfl ?_
                      refine me2 (pc' := 34) (S' := []) dm_X3_unlike_92 rfl rfl rfl ?_
                      exact pg_sub (L := [(0, .ref 17), (1, .ref p), (2, ii (((n + 1) : Nat) : Int)), (3, ii ((k + 1) : Int))]) rfl rfl rfl (ih34 (vm v - (k + 1)) (by omega) (k + 1) (n + 1) (va_up P n (k : Int)) rfl (by omega) (by rw [unq_s hsaw, hn]) (fun j hj => by rw [unq_s hsaw, up_at]; show _ = ((va_up (unq (isame (e + 1) v) k).2 (unq (isame (e + 1) v) k).1 k j : Nat) : Int); rw [up_at, ← hn]; by_cases z : j = n; (rw [if_pos z, if_pos z]); (rw [if_neg z, if_neg z]; exact hP j (by omega))))
                  · refine y_iinc (pc' := 70) (L' := [(4, ii ((i : Int) + 1)), (0, .ref 17), (1, .ref p), (2, ii ((n : Nat) : Int)), (3, ii (k : Int))]) dm_X3_unlike_67 (y_incp (a := (i : Int)) (c := 1) rfl rfl (by decide)) rfl ?_
                    refine me2 (pc' := 45) (S' := []) dm_X3_unlike_70 rfl rfl rfl ?_
                    exact pg_sub (L := [(0, .ref 17), (1, .ref p), (2, ii ((n : Nat) : Int)), (3, ii (k : Int)), (4, ii ((i + 1) : Int))]) rfl rfl rfl (ih45 (n - (i + 1)) (by omega) (i + 1) rfl (by omega) (fun j hj => by by_cases z : j = i; (subst z; assumption); exact hno j (by omega)))
            exact pg_sub (L := [(0, .ref 17), (1, .ref p), (2, ii ((n : Nat) : Int)), (3, ii (k : Int)), (4, ii (0 : Int))]) rfl rfl rfl (lp45 _ 0 rfl (Nat.zero_le _) (fun j hj => absurd hj (Nat.not_lt_zero j)))
      refine pg_cast (h2 := (h).set 18 (cI 144 pf0)) (hl_self h18).symm ?_
      exact pg_sub (L := [(0, .ref 17), (1, .ref p), (2, ii ((0 : Nat) : Int)), (3, ii (0 : Int))]) rfl rfl rfl (lp34 _ 0 0 pf0 rfl (Nat.zero_le _) rfl (fun j hj => absurd hj (Nat.not_lt_zero j)))
    · replace hb2 := dT hb2
      refine me1 (pc' := 17) (L' := [(0, .ref 17), (1, .ref p)]) (S' := [.ref p]) dm_X3_unlike_16 rfl rfl rfl rfl ?_
      refine me1 (pc' := 18) (L' := [(0, .ref 17), (1, .ref p)]) (S' := [.ref 17, .ref p]) dm_X3_unlike_17 rfl rfl rfl rfl ?_
      refine me3 (pc' := 21) (S' := [.ref 18, .ref p]) dm_X3_unlike_18 (g_get (v := .ref 18) h17 rfl rfl (by decide)) rfl rfl rfl ?_
      refine me1 (pc' := 22) (L' := [(0, .ref 17), (1, .ref p)]) (S' := [.ref 17, .ref 18, .ref p]) dm_X3_unlike_21 rfl rfl rfl rfl ?_
      refine me1 (pc' := 23) (L' := [(0, .ref 17), (1, .ref p)]) (S' := [.ref p, .ref 17, .ref 18, .ref p]) dm_X3_unlike_22 rfl rfl rfl rfl ?_
      refine x_cv (pc' := 26) (rest := [.ref 18, .ref p]) dm_X3_unlike_23 rfl (g_inv (As := [.ref p]) (S := [.ref 18, .ref p]) h17 rfl rfl rfl (by decide)) rfl rfl rfl (o_unlikePlaces hx1 (by omega) hl hA hH hv he1 hset (by omega) (by omega)) ?_
      rintro _ _ ⟨P, rfl, rfl, hP⟩
      have hul := unq_le (nsame v) (vm v)
      have hpk : ∀ j, j < (unq (nsame v) (vm v)).1 → -2147483648 ≤ P j ∧ P j ≤ 2147483647 ∧ (vk v ≤ 1 ∨ 0 ≤ P j ∧ P j < vm v) := fun j hj => by have a1 := hP j hj; have a2 := hul.2 j hj; omega
      replace hul := hul.1
      have hs1 : scrS h ((h).set 18 (cI 144 P)) := scrS_set (by unfold scr; decide) h18 rfl
      have hA1 := okA_scr hA hs1
      have hl1 : 127 ≤ ((h).set 18 (cI 144 P)).length := by rw [hs1.1]; exact hl
      refine x_cv (pc' := 29) (rest := []) dm_X3_unlike_26 rfl (g_inv (As := [.ref 18, ii (((unq (nsame v) (vm v)).1 : Nat) : Int)]) (S := []) (hl_ne (by omega) hp) rfl rfl rfl (by omega)) rfl rfl rfl (c_pick hx1 (by omega) hA1 hl1 (cv_set (nA hA (Or.inl (by decide))) hv) (hl_set (hl_lt h18)) (by decide) (by decide) (by omega) he1 hset (by omega) hpk) ?_
      rintro x h2 hres
      obtain ⟨q, rfl⟩ := ares_ref hres
      refine y_ret (r := some (.ref q)) dm_X3_unlike_29 rfl rfl rfl ?_
      refine ⟨_, rfl, _, hs1, actH_18 hH _, ?_⟩
      rw [show m_unl (e + 1) v = .inr (vpick v (unq (nsame v) (vm v)).2 (unq (nsame v) (vm v)).1) by unfold m_unl; rw [if_neg (by omega), if_pos (by omega)]]
      unfold m_unla m_unlb
      rw [if_pos (by omega), if_pos (by omega)]
      rw [s_pick_r (by omega), pcl_n (by omega)] at hres
      exact ares_dup (ares_congr hres (vpick_congr (by omega) (fun j hj => by rw [hP j hj]; rfl)))
  · replace hb1 := dT hb1
    refine me1 (pc' := 8) (L' := [(0, .ref 17), (1, .ref p)]) (S' := [.ref p]) dm_X3_unlike_7 rfl rfl rfl rfl ?_
    refine y_ret (r := some (.ref p)) dm_X3_unlike_8 rfl rfl rfl ?_
    exact ⟨_, rfl, h, scrS_rf h, hH, by rw [show m_unl (e + 1) v = .inr v by unfold m_unl; rw [if_pos (by omega)]]; exact vres_same (cv_up hv)⟩
