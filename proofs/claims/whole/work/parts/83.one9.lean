theorem scrS_pr {h h1 : mj_H} (hs : prS 20 22 21 h h1) : scrS h h1 := ⟨hs.1, hs.2.1, fun x hx => hs.2.2 x (fun z => hx (by unfold scr; omega)) (fun z => hx (by unfold scr; omega)) (fun z => hx (by unfold scr; omega))⟩
theorem actH_pr {h h1 : mj_H} {l : List Int} (ha : actH h) (hs : prS 20 22 21 h h1) (hp : prt h1 20 22 21 121 l) : actH h1 := by
  obtain ⟨a1, ⟨f2, a2⟩, ⟨f3, a3⟩, ⟨f4, a4, b4⟩, ⟨f5, a5⟩, ⟨f6, a6⟩, ⟨x1, x2, x3, x4, x5, x6, x7, x8, x9, x10, x11, a7⟩, ⟨f8, a8⟩, ⟨f9, a9⟩, ⟨y1, y2, y3, y4, y5, y6, y7, y8, y9, y10, y11, a10⟩, ⟨f11, a11⟩, ⟨f12, a12⟩, ⟨f13, a13⟩, ⟨f14, a14⟩⟩ := ha
  obtain ⟨f, m, dg, p1, p2, p3, p4, -⟩ := hp
  have k : ∀ x c, (x ≠ 20 ∧ x ≠ 22 ∧ x ≠ 21) → h[x]? = some c → h1[x]? = some c := fun x c hx hg => (hs.2.2 x hx.1 hx.2.1 hx.2.2).trans hg
  exact ⟨k _ _ (by decide) a1, ⟨f2, k _ _ (by decide) a2⟩, ⟨f3, k _ _ (by decide) a3⟩, ⟨_, p1, by omega, by omega⟩, ⟨_, p3⟩, ⟨_, p2⟩, ⟨x1, x2, x3, x4, x5, x6, x7, x8, x9, x10, x11, k _ _ (by decide) a7⟩, ⟨f8, k _ _ (by decide) a8⟩, ⟨f9, k _ _ (by decide) a9⟩, ⟨y1, y2, y3, y4, y5, y6, y7, y8, y9, y10, y11, k _ _ (by decide) a10⟩, ⟨f11, k _ _ (by decide) a11⟩, ⟨f12, k _ _ (by decide) a12⟩, ⟨f13, k _ _ (by decide) a13⟩, ⟨f14, k _ _ (by decide) a14⟩⟩
/-- all bytes that are printed can be read -/
def okL (l : List Int) : Prop := ∀ c ∈ l, 32 ≤ c ∧ c ≤ 126
theorem okL_nil : okL [] := fun c hc => by cases hc
theorem okL_one {c : Int} (h : 32 ≤ c ∧ c ≤ 126) : okL [c] := fun x hx => by rw [List.mem_singleton.mp hx]; exact h
theorem okL_app {a b : List Int} (h1 : okL a) (h2 : okL b) : okL (a ++ b) := fun c hc => (List.mem_append.mp hc).elim (h1 c) (h2 c)
theorem okL_num (x : Int64) : okL (numL x) := by
  unfold numL
  refine okL_app ?_ ?_
  · split
    · exact okL_one (by omega)
    · exact okL_nil
  · intro c hc
    unfold rl bl at hc
    obtain ⟨j, -, rfl⟩ := List.mem_map.mp (List.mem_reverse.mp hc)
    unfold dgt
    omega
theorem okL_sep (v : VV) (k : Nat) : okL (sepL v k) := by
  unfold sepL
  split
  · exact okL_nil
  · split
    · exact okL_one (by omega)
    · exact okL_one (by omega)
theorem okL_nms (v : VV) (k : Nat) : okL (nmsL v k) := by
  induction k with
  | zero => exact okL_nil
  | succ k ih => exact okL_app ih (okL_app (okL_sep v k) (okL_num _))
theorem okL_sgs (v : VV) (k : Nat) : okL (sgsL v k) := by
  induction k with
  | zero => exact okL_nil
  | succ k ih =>
    refine okL_app ih (okL_one ?_)
    unfold sgn
    split
    · omega
    · omega
theorem okL_sgn (v : VV) : okL (sgnL v) := by
  unfold sgnL
  refine okL_app ?_ (okL_app (okL_one (by omega)) (okL_app (okL_sgs v _) (okL_one (by omega))))
  split
  · exact okL_one (by omega)
  · exact okL_nil
theorem okL_nst {f : Nat → List Int} (h : ∀ k, okL (f k)) (k : Nat) : okL (nstL f k) := by
  induction k with
  | zero => exact okL_nil
  | succ k ih =>
    refine okL_app ih (okL_app ?_ (h k))
    split
    · exact okL_nil
    · exact okL_one (by omega)
theorem okL_va {d : Nat} : ∀ {v : VV}, okL (vaL d v) := by
  induction d with
  | zero => intro v; exact okL_nil
  | succ d ih =>
    intro v
    rw [vaL_s]
    split
    · exact okL_num _
    · split
      · exact okL_sgn _
      · split
        · exact okL_app (okL_nms _ _) (okL_one (by omega))
        · split
          · exact okL_app (okL_one (by omega)) (okL_app (okL_nms _ _) (okL_one (by omega)))
          · split
            · exact okL_app (okL_one (by omega)) (okL_app (okL_nst (fun k => ih) _) (okL_one (by omega)))
            · refine okL_app ?_ (okL_nms _ _)
              split
              · exact okL_app (a := [33]) (b := [48]) (okL_one (by omega)) (okL_one (by omega))
              · split
                · exact okL_one (by omega)
                · exact okL_nil
theorem bl_getD {f : Nat → Int} {m k : Nat} (h : k < m) : (bl f m).getD k 0 = f k := by
  unfold bl
  rw [List.getD_eq_getElem?_getD, List.getElem?_map, List.getElem?_range h]
  rfl
theorem bl_mem {f : Nat → Int} {m k : Nat} (h : k < m) : f k ∈ bl f m := List.mem_map.mpr ⟨k, List.mem_range.mpr h, rfl⟩
/-- $ -/
def m_text (d : Nat) (v : VV) : Nat ⊕ VV := if 120 < (vaL d v).length then .inl 8 else .inr (vrow 3 (vaL d v).length (fun k => Int64.ofInt ((vaL d v).getD k 0)))
set_option maxRecDepth 20000 in
theorem pm_X3_text : mj_mmof pg_ms 133 = some ((⟨"ArrayCalculator$OneAct", "text", "(LArrayCalculator$Value;)LArrayCalculator$Value;"⟩, prog_5_method_18_code, 5, (Option.some (Jvm.ClassFile.FieldType.object "ArrayCalculator$Value"))), 3, false, mj_dec prog_5_method_18_code) := rfl
theorem dm_X3_text_0 : mj_dec prog_5_method_18_code 0 = some (.aload_n 0, 1) := by decide +kernel
theorem dm_X3_text_1 : mj_dec prog_5_method_18_code 1 = some (.getfield 24, 3) := by decide +kernel
theorem dm_X3_text_4 : mj_dec prog_5_method_18_code 4 = some (.invokevirtual 205, 3) := by decide +kernel
theorem dm_X3_text_7 : mj_dec prog_5_method_18_code 7 = some (.aload_n 0, 1) := by decide +kernel
theorem dm_X3_text_8 : mj_dec prog_5_method_18_code 8 = some (.getfield 24, 3) := by decide +kernel
theorem dm_X3_text_11 : mj_dec prog_5_method_18_code 11 = some (.aload_n 1, 1) := by decide +kernel
theorem dm_X3_text_12 : mj_dec prog_5_method_18_code 12 = some (.invokevirtual 208, 3) := by decide +kernel
theorem dm_X3_text_15 : mj_dec prog_5_method_18_code 15 = some (.aload_n 0, 1) := by decide +kernel
theorem dm_X3_text_16 : mj_dec prog_5_method_18_code 16 = some (.getfield 24, 3) := by decide +kernel
theorem dm_X3_text_19 : mj_dec prog_5_method_18_code 19 = some (.invokevirtual 212, 3) := by decide +kernel
theorem dm_X3_text_22 : mj_dec prog_5_method_18_code 22 = some (.istore_n 2, 1) := by decide +kernel
theorem dm_X3_text_23 : mj_dec prog_5_method_18_code 23 = some (.iload_n 2, 1) := by decide +kernel
theorem dm_X3_text_24 : mj_dec prog_5_method_18_code 24 = some (.bipush 120, 2) := by decide +kernel
theorem dm_X3_text_26 : mj_dec prog_5_method_18_code 26 = some (.if_icmp .le 9, 3) := by decide +kernel
theorem dm_X3_text_29 : mj_dec prog_5_method_18_code 29 = some (.bipush 8, 2) := by decide +kernel
theorem dm_X3_text_31 : mj_dec prog_5_method_18_code 31 = some (.invokestatic 68, 3) := by decide +kernel
theorem dm_X3_text_34 : mj_dec prog_5_method_18_code 34 = some (.areturn, 1) := by decide +kernel
theorem dm_X3_text_35 : mj_dec prog_5_method_18_code 35 = some (.iload_n 2, 1) := by decide +kernel
theorem dm_X3_text_36 : mj_dec prog_5_method_18_code 36 = some (.newarray .long, 2) := by decide +kernel
theorem dm_X3_text_38 : mj_dec prog_5_method_18_code 38 = some (.astore_n 3, 1) := by decide +kernel
theorem dm_X3_text_39 : mj_dec prog_5_method_18_code 39 = some (.iconst 0, 1) := by decide +kernel
theorem dm_X3_text_40 : mj_dec prog_5_method_18_code 40 = some (.istore 4, 2) := by decide +kernel
theorem dm_X3_text_42 : mj_dec prog_5_method_18_code 42 = some (.iload 4, 2) := by decide +kernel
theorem dm_X3_text_44 : mj_dec prog_5_method_18_code 44 = some (.iload_n 2, 1) := by decide +kernel
theorem dm_X3_text_45 : mj_dec prog_5_method_18_code 45 = some (.if_icmp .ge 23, 3) := by decide +kernel
theorem dm_X3_text_48 : mj_dec prog_5_method_18_code 48 = some (.aload_n 3, 1) := by decide +kernel
theorem dm_X3_text_49 : mj_dec prog_5_method_18_code 49 = some (.iload 4, 2) := by decide +kernel
theorem dm_X3_text_51 : mj_dec prog_5_method_18_code 51 = some (.aload_n 0, 1) := by decide +kernel
theorem dm_X3_text_52 : mj_dec prog_5_method_18_code 52 = some (.getfield 24, 3) := by decide +kernel
theorem dm_X3_text_55 : mj_dec prog_5_method_18_code 55 = some (.iload 4, 2) := by decide +kernel
theorem dm_X3_text_57 : mj_dec prog_5_method_18_code 57 = some (.invokevirtual 215, 3) := by decide +kernel
theorem dm_X3_text_60 : mj_dec prog_5_method_18_code 60 = some (.i2l, 1) := by decide +kernel
theorem dm_X3_text_61 : mj_dec prog_5_method_18_code 61 = some (.lastore, 1) := by decide +kernel
theorem dm_X3_text_62 : mj_dec prog_5_method_18_code 62 = some (.iinc 4 1, 3) := by decide +kernel
theorem dm_X3_text_65 : mj_dec prog_5_method_18_code 65 = some (.goto (-23), 3) := by decide +kernel
theorem dm_X3_text_68 : mj_dec prog_5_method_18_code 68 = some (.iconst 3, 1) := by decide +kernel
theorem dm_X3_text_69 : mj_dec prog_5_method_18_code 69 = some (.aload_n 3, 1) := by decide +kernel
theorem dm_X3_text_70 : mj_dec prog_5_method_18_code 70 = some (.invokestatic 153, 3) := by decide +kernel
theorem dm_X3_text_73 : mj_dec prog_5_method_18_code 73 = some (.areturn, 1) := by decide +kernel
theorem o_text {xt : mj_X} {d e p : Nat} {A : Nat → Prop} {h : mj_H} {v : VV} {f1 : Nat → Value} (hx1 : xt 1 = some (.long, 0, f1)) (hd : 4 * e + 16 ≤ d) (hl : 127 ≤ h.length) (hA : okA A h) (hH : actH h) (hv : cv A h (e + 1) p v) (he : e ≤ 20) (hset : vsz (e + 1) v ≤ 1000) : pgV xt d 133 [.ref 17, .ref p] h (aact A h (e + 1) (m_text (e + 1) v) 2 (rsl (m_text (e + 1) v))) := by
  have h17 := hH.1
  obtain ⟨pf0, h18⟩ := hH.2.1
  obtain ⟨nf0, h19⟩ := hH.2.2.1
  have hcv := vw1_c hv.1
  obtain ⟨row, fr, vals, hp, hp2, hpA, hvk, hvm, hvc, hvs, hvl⟩ := cv_val hv
  have hpb := hA p hpA
  obtain ⟨a20, h20, ha20⟩ := hH.2.2.2.1
  obtain ⟨m20, rfl⟩ : ∃ m : Nat, a20 = (m : Int) := ⟨a20.toNat, by omega⟩
  obtain ⟨f21, h21⟩ := hH.2.2.2.2.1
  obtain ⟨f22, h22⟩ := hH.2.2.2.2.2.1
  have hoA : ¬ A 20 ∧ ¬ A 22 ∧ ¬ A 21 := ⟨nA hA (Or.inl (by decide)), nA hA (Or.inl (by decide)), nA hA (Or.inl (by decide))⟩
  refine x_enter pm_X3_text (L0 := [(0, .ref 17), (1, .ref p)]) rfl (Nat.le_of_ble_eq_true rfl) (by omega) ?_
  refine me1 (pc' := 1) (L' := [(0, .ref 17), (1, .ref p)]) (S' := [.ref 17]) dm_X3_text_0 rfl rfl rfl rfl ?_
  refine me3 (pc' := 4) (S' := [.ref 20]) dm_X3_text_1 (g_get (v := .ref 20) h17 rfl rfl (by decide)) rfl rfl rfl ?_
  refine x_cn (pc' := 7) (rest := []) dm_X3_text_4 rfl (g_inv (As := []) (S := []) h20 rfl rfl rfl (by decide)) rfl rfl rfl (k_clear (by omega) (by decide) h20 h22 (by omega) (by omega)) ?_
  rintro _ rfl
  have hP0 : prt (h.set 20 (cO 6 [.ref 22, .ref 21, ii 0])) 20 22 21 121 [] := ⟨f22, 0, f21, hl_set (hl_lt h20), hl_ne (by decide) h22, hl_ne (by decide) h21, Nat.zero_le _, rfl⟩
  have hS0 : prS 20 22 21 h (h.set 20 (cO 6 [.ref 22, .ref 21, ii 0])) := prS_set (e' := (cO 6 [.ref 22, .ref 21, ii 0])) (Or.inl rfl) h20 rfl
  refine me1 (pc' := 8) (L' := [(0, .ref 17), (1, .ref p)]) (S' := [.ref 17]) dm_X3_text_7 rfl rfl rfl rfl ?_
  refine me3 (pc' := 11) (S' := [.ref 20]) dm_X3_text_8 (g_get (v := .ref 20) (hl_ne (by decide) h17) rfl rfl (by decide)) rfl rfl rfl ?_
  refine me1 (pc' := 12) (L' := [(0, .ref 17), (1, .ref p)]) (S' := [.ref p, .ref 20]) dm_X3_text_11 rfl rfl rfl rfl ?_
  refine x_cn (pc' := 15) (rest := []) dm_X3_text_12 rfl (g_inv (As := [.ref p]) (S := []) (hl_set (hl_lt h20)) rfl rfl rfl (by decide)) rfl rfl rfl (k_put (e + 1) (by omega) (by decide) (by decide) (by decide) hP0 hx1 hoA (cv_pr hoA hS0 hv)) ?_
  rintro h2 ⟨hS2, hP2⟩
  replace hS2 := prS_tr hS0 hS2
  rw [List.nil_append] at hP2
  have hH2 := actH_pr hH hS2 hP2
  have hs2 := scrS_pr hS2
  obtain ⟨f2, m2, g2, ho2, hbz2, hg2, hm2, hl2⟩ := id hP2
  have hln : 127 ≤ h2.length := by rw [hS2.1]; exact hl
  have hlen : m2 = min 121 (vaL (e + 1) v).length := by have z := congrArg List.length hl2; rw [bl_len, List.length_take] at z; omega
  refine me1 (pc' := 16) (L' := [(0, .ref 17), (1, .ref p)]) (S' := [.ref 17]) dm_X3_text_15 rfl rfl rfl rfl ?_
  refine me3 (pc' := 19) (S' := [.ref 20]) dm_X3_text_16 (g_get (v := .ref 20) ((hS2.2.2 17 (by decide) (by decide) (by decide)).trans h17) rfl rfl (by decide)) rfl rfl rfl ?_
  refine x_cp (pc' := 22) (v := ii ((m2 : Nat) : Int)) (rest := []) dm_X3_text_19 rfl (g_inv (As := []) (S := []) ho2 rfl rfl rfl (by decide)) rfl rfl rfl (k_length (by omega) (by decide) ho2 hbz2 hm2 (by omega)) ?_
  refine me1 (pc' := 23) (L' := [(2, ii ((m2 : Nat) : Int)), (0, .ref 17), (1, .ref p)]) (S' := []) dm_X3_text_22 rfl rfl rfl rfl ?_
  refine me1 (pc' := 24) (L' := [(2, ii ((m2 : Nat) : Int)), (0, .ref 17), (1, .ref p)]) (S' := [ii ((m2 : Nat) : Int)]) dm_X3_text_23 rfl rfl rfl rfl ?_
  refine me0 (pc' := 26) (S' := [ii 120, ii ((m2 : Nat) : Int)]) dm_X3_text_24 rfl rfl rfl rfl ?_
  refine y_2le (a := ((m2 : Nat) : Int)) (b := 120) (t := 35) (pc' := 29) dm_X3_text_26 rfl rfl (by omega) (fun hb1 => ?_) (fun hb1 => ?_)
  · have hall : (vaL (e + 1) v).take 121 = vaL (e + 1) v := List.take_of_length_le (by omega)
    rw [hall] at hl2
    have hfr9 : ∀ k, k < m2 → 32 ≤ f2 k ∧ f2 k ≤ 126 := fun k hk => okL_va (d := e + 1) (v := v) _ (hl2 ▸ bl_mem hk)
    refine me1 (pc' := 36) (L' := [(2, ii ((m2 : Nat) : Int)), (0, .ref 17), (1, .ref p)]) (S' := [ii ((m2 : Nat) : Int)]) dm_X3_text_35 rfl rfl rfl rfl ?_
    refine me3 (pc' := 38) (S' := [.ref h2.length]) (h1 := h2 ++ [cJ m2 (fun _ => 0)]) dm_X3_text_36 (yh_newJ (by omega) (by omega) (by omega) rfl) rfl rfl rfl ?_
    refine me1 (pc' := 39) (L' := [(3, .ref h2.length), (2, ii ((m2 : Nat) : Int)), (0, .ref 17), (1, .ref p)]) (S' := []) dm_X3_text_38 rfl rfl rfl rfl ?_
    refine me0 (pc' := 40) (S' := [ii 0]) dm_X3_text_39 rfl rfl rfl rfl ?_
    refine me1 (pc' := 42) (L' := [(4, ii 0), (3, .ref h2.length), (2, ii ((m2 : Nat) : Int)), (0, .ref 17), (1, .ref p)]) (S' := []) dm_X3_text_40 rfl rfl rfl rfl ?_
    have lp42 : ∀ (n42 : Nat) (k : Nat), m2 - k = n42 → (k ≤ m2) → pgE xt (d - 1) 3 5 false (Option.some (Jvm.ClassFile.FieldType.object "ArrayCalculator$Value")) (mj_dec prog_5_method_18_code) 42 [(0, .ref 17), (1, .ref p), (2, ii ((m2 : Nat) : Int)), (3, .ref h2.length), (4, ii (k : Int))] [] (h2 ++ [cJ m2 (fl k (fun k : Nat => Int64.ofInt (f2 k)) (fun _ => 0))]) (fun r h' => ∃ x, r = some x ∧ aact A h (e + 1) (m_text (e + 1) v) 2 (rsl (m_text (e + 1) v)) x h') := by
      intro n42
      induction n42 using Nat.strongRecOn with
      | ind n42 ih42 =>
        intro k hm42 hk
        refine me1 (pc' := 44) (L' := [(0, .ref 17), (1, .ref p), (2, ii ((m2 : Nat) : Int)), (3, .ref h2.length), (4, ii (k : Int))]) (S' := [ii (k : Int)]) dm_X3_text_42 rfl rfl rfl rfl ?_
        refine me1 (pc' := 45) (L' := [(0, .ref 17), (1, .ref p), (2, ii ((m2 : Nat) : Int)), (3, .ref h2.length), (4, ii (k : Int))]) (S' := [ii ((m2 : Nat) : Int), ii (k : Int)]) dm_X3_text_44 rfl rfl rfl rfl ?_
        refine y_2ge (a := (k : Int)) (b := ((m2 : Nat) : Int)) (t := 68) (pc' := 48) dm_X3_text_45 rfl rfl (by omega) (fun hb2 => ?_) (fun hb2 => ?_)
        · refine me0 (pc' := 69) (S' := [ii 3]) dm_X3_text_68 rfl rfl rfl rfl ?_
          refine me1 (pc' := 70) (L' := [(0, .ref 17), (1, .ref p), (2, ii ((m2 : Nat) : Int)), (3, .ref h2.length), (4, ii (k : Int))]) (S' := [.ref h2.length, ii 3]) dm_X3_text_69 rfl rfl rfl rfl ?_
          refine x_cv (pc' := 73) (rest := []) dm_X3_text_70 rfl (g_invs (As := [ii 3, .ref h2.length]) (S := []) rfl rfl rfl) rfl rfl rfl (c_row (hx1 := hx1) (q := h2.length + 1) (by omega) (by simp; omega) (by simp) (by omega) (show rowAt (fun _ => True) _ _ _ _ from Or.inr ⟨by omega, hl_new, by omega, trivial⟩) (by omega)) ?_
          rintro _ _ ⟨rfl, rfl⟩
          refine y_ret (r := some (.ref (h2.length + 1))) dm_X3_text_73 rfl rfl rfl ?_
          have hkn : k = m2 := by omega
          refine ⟨_, rfl, h2, hs2, hH2, ?_⟩
          have hml : (vaL (e + 1) v).length = m2 := by omega
          rw [show m_text (e + 1) v = .inr (vrow 3 m2 (fun k => Int64.ofInt ((vaL (e + 1) v).getD k 0))) by unfold m_text; rw [if_neg (by omega), hml]]
          exact vres_rowL (k := 3) rfl hln (by omega) (by omega) (by omega) rfl (fun j hj => by rw [hkn, fl_at _ _ hj, hl2, bl_getD hj]) (by omega) (rsl_row (by omega))
        · refine me1 (pc' := 49) (L' := [(0, .ref 17), (1, .ref p), (2, ii ((m2 : Nat) : Int)), (3, .ref h2.length), (4, ii (k : Int))]) (S' := [.ref h2.length]) dm_X3_text_48 rfl rfl rfl rfl ?_
          refine me1 (pc' := 51) (L' := [(0, .ref 17), (1, .ref p), (2, ii ((m2 : Nat) : Int)), (3, .ref h2.length), (4, ii (k : Int))]) (S' := [ii (k : Int), .ref h2.length]) dm_X3_text_49 rfl rfl rfl rfl ?_
          refine me1 (pc' := 52) (L' := [(0, .ref 17), (1, .ref p), (2, ii ((m2 : Nat) : Int)), (3, .ref h2.length), (4, ii (k : Int))]) (S' := [.ref 17, ii (k : Int), .ref h2.length]) dm_X3_text_51 rfl rfl rfl rfl ?_
          refine me3 (pc' := 55) (S' := [.ref 20, ii (k : Int), .ref h2.length]) dm_X3_text_52 (g_get (v := .ref 20) (hl_app ((hS2.2.2 17 (by decide) (by decide) (by decide)).trans h17)) rfl rfl (by decide)) rfl rfl rfl ?_
          refine me1 (pc' := 57) (L' := [(0, .ref 17), (1, .ref p), (2, ii ((m2 : Nat) : Int)), (3, .ref h2.length), (4, ii (k : Int))]) (S' := [ii (k : Int), .ref 20, ii (k : Int), .ref h2.length]) dm_X3_text_55 rfl rfl rfl rfl ?_
          have hfk := hfr9 k (by omega)
          have hbk : (if 0 ≤ (k : Int) ∧ (k : Int) < ((m2 : Nat) : Int) then f2 (k : Int).toNat else -1) = f2 k := by rw [if_pos (by omega)]; rfl
          refine x_cp (pc' := 60) (v := ii (f2 k)) (rest := [ii (k : Int), .ref h2.length]) dm_X3_text_57 rfl (g_inv (As := [ii (k : Int)]) (S := [ii (k : Int), .ref h2.length]) (hl_app ho2) rfl rfl rfl (by decide)) rfl rfl rfl ((show pgP xt (d - 1) _ _ _ (ii (f2 k)) from hbk ▸ k_byteAt (k := (k : Int)) (by omega) (by decide) (hl_app ho2) (hl_app hbz2) hm2 (by omega) (by omega))) ?_
          refine y_i2l (a := f2 k) dm_X3_text_60 (pc' := 61) rfl (by omega) (by omega) ?_
          refine me3 (pc' := 62) (S' := []) (h1 := h2 ++ [cJ m2 (va_up (fl k (fun k : Nat => Int64.ofInt (f2 k)) (fun _ => 0)) k (Int64.ofInt (f2 k)))]) dm_X3_text_61 (y_hs (yh_last (j := (k : Int)) hl_new (by omega) (by omega) (by omega) (by omega)) (by rw [show (k : Int).toNat = k from rfl]; exact (hl_setl))) rfl rfl rfl ?_
          refine y_iinc (pc' := 65) (L' := [(4, ii ((k : Int) + 1)), (0, .ref 17), (1, .ref p), (2, ii ((m2 : Nat) : Int)), (3, .ref h2.length)]) dm_X3_text_62 (y_incp (a := (k : Int)) (c := 1) rfl rfl (by decide)) rfl ?_
          refine me2 (pc' := 42) (S' := []) dm_X3_text_65 rfl rfl rfl ?_
          refine pg_cast (h2 := h2 ++ [cJ m2 (fl (k + 1) (fun k : Nat => Int64.ofInt (f2 k)) (fun _ => 0))]) (congrArg (fun z => h2 ++ [cJ m2 z]) (fl_s k (fun k : Nat => Int64.ofInt (f2 k)) (fun _ => 0))) ?_
          exact pg_sub (L := [(0, .ref 17), (1, .ref p), (2, ii ((m2 : Nat) : Int)), (3, .ref h2.length), (4, ii ((k + 1) : Int))]) rfl rfl rfl (ih42 (m2 - (k + 1)) (by omega) (k + 1) rfl (by omega))
    refine pg_cast (h2 := h2 ++ [cJ m2 (fl 0 (fun k : Nat => Int64.ofInt (f2 k)) (fun _ => 0))]) (congrArg (fun z => h2 ++ [cJ m2 z]) (fl_0 _ _).symm) ?_
    exact pg_sub (L := [(0, .ref 17), (1, .ref p), (2, ii ((m2 : Nat) : Int)), (3, .ref h2.length), (4, ii (0 : Int))]) rfl rfl rfl (lp42 _ 0 rfl (Nat.zero_le _))
  · refine me0 (pc' := 31) (S' := [ii 8]) dm_X3_text_29 rfl rfl rfl rfl ?_
    refine x_cv (pc' := 34) (rest := []) dm_X3_text_31 rfl (g_invs (As := [ii 8]) (S := []) rfl rfl rfl) rfl rfl rfl (c_fault (q := h2.length) (by omega) (by omega) rfl (by omega)) ?_
    rintro _ _ ⟨rfl, rfl⟩
    refine y_ret (r := some (.ref h2.length)) dm_X3_text_34 rfl rfl rfl ?_
    refine ⟨_, rfl, h2, hs2, hH2, ?_⟩
    rw [show m_text (e + 1) v = .inl 8 by unfold m_text; rw [if_pos (by omega)]]
    exact ares_f 8 (by omega) (by omega) (Nat.le_refl _)
