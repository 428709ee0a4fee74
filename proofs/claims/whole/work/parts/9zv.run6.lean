/-! the Machine's run: an ADVERB begins -/
section advs
variable {xt : mj_X} {f1 : Nat → Value} {d fi : Nat} {P : Option Value → mj_H → Prop} {A0 : Nat → Prop} {h0 : mj_H} {W0 : Nat} {EN : (Nat → Prop) → mj_H → Prop} {ca : Nat} {cp : Option Int} {bx by_ : Option Nat} {T : Nat → Tok} {i k mk ln : Nat} {call : CF}
theorem AP_v (hx1 : xt 1 = some (.long, 0, f1)) (hRO : RMO) (hRT : RMT) (hd : 82 ≤ d) (hca : ca ≤ 10) (hW0 : W0 ≤ 500000) (h5 : tqS (T i) = 5) (hov : 1 ≤ tqD (T i) ∧ tqD (T i) ≤ 126) : AP xt d fi P A0 h0 W0 EN ca cp bx by_ T i 0 (dAp call T i cp 0) := by
  intro A h t dq W s st p nw sf lq wq l w dd nx hEN hD hs hp hl hw ht hdq hst hk
  have hp : fzC A h p (opC dd (tqP (T i) : Int) (tqD (T i)) (Int64.ofInt 0) (avI T (i + 1) (avM T i)) (avM T i : Int) 0 .null nx .null) := by
    unfold doC at hp
    rw [if_pos h5, if_pos h5] at hp
    exact hp
  cases lq with
  | none =>
    cases l with
    | some v => exact hl.elim
    | none =>
      have e1 : dAp call T i cp 0 none w W = dOne cp W (tqD (T i)) w (tqP (T i) : Int) := if_neg (by omega)
      rw [e1] at hk
      exact run_act1 hx1 hRO hd hD (hs.2 rfl) hp (by omega) hw (by omega) hca hW0 (by omega) hk
  | some ql =>
    cases l with
    | none => exact hl.elim
    | some v =>
      have e1 : dAp call T i cp 0 (some v) w W = dTwo cp W (tqD (T i)) v w (tqP (T i) : Int) := if_neg (by omega)
      rw [e1] at hk
      exact run_act2 hx1 hRT hd hD hs.1 hp (by omega) hl hw (by omega) hca hW0 (by omega) hk
/-- behind the ADVERB's beginning -/
theorem adv_LST {A : Nat → Prop} {h h1 : mj_H} {t m dq W s a b p wq j n : Nat} {nw lq : Option Nat} {sf1 : Nat → Option Nat} {ch : Nat → VV} {pl ou lv : Int} {lf rt : Value} (hM : MH A h) (hB : BI A0 h0 W0 A h W s) (hcp : 0 < ca → cp = some ou) (hc0 : ca = 0 → cp = none) (hdq : dq < 64) (hW : 3 ≤ W) (fx : FX (fun y => y = 16 ∨ y = 32 ∨ y = 34 + dq) a b h h1) (hb : b ≤ 9 * a) (hs : s + a ≤ 2) (g16 : h1[16]? = some (mcC ((t + m : Nat) : Int) ((dq : Int) + 1) (ca : Int) ou ((W : Int) - 3) 0 pl (oV nw) (oV bx) (oV by_) .null lv lf rt)) (g32 : h1[32]? = some (cA 4 8192 sf1)) (gfr : h1[34 + dq]? = some (cO 0 [ii ((k + 1 : Nat) : Int), .ref p, oV lq, .ref wq, ii ((j : Nat) : Int), ii ((n : Nat) : Int), ii ((t : Nat) : Int)])) (hstk : ∀ x, x < m → ∃ q, sf1 (t + x) = some q ∧ gv (newA A h h1) h1 q (ch x)) : MF dq h h1 ∧ LST A0 h0 W0 (newA A h h1) h1 t m dq ca cp (W - 3) nw bx by_ sf1 p k lq wq j n ch := by
  obtain ⟨x1, hM1⟩ := MH_fx hM fx hdq gfr
  have hB1 := BI_W (W' := W - 3) (s' := 0) (BI_fx hB fx x1 hb) (by omega) (by omega)
  rw [show ((dq : Int) + 1) = ((dq + 1 : Nat) : Int) by omega, show (W : Int) - 3 = ((W - 3 : Nat) : Int) by omega] at g16
  exact ⟨x1, ⟨hM1, hB1, g32, ⟨pl, ou, lv, lf, rt, g16, hcp⟩, hc0⟩, gfr, hstk⟩
theorem AP_s (hx1 : xt 1 = some (.long, 0, f1)) (hd : 82 ≤ d) (hK : TOKS T mk ln) (hca : ca ≤ 10) (hW0 : W0 ≤ 500000) (hEk : ENk EN) (hkA : k < avM T i) (had : 1 ≤ tqD (T (i + 1 + k)) ∧ tqD (T (i + 1 + k)) ≤ 126) (hA3 : tqD (T (i + 1 + k)) = 39 ∨ tqD (T (i + 1 + k)) = 47 ∨ tqD (T (i + 1 + k)) = 92) (hAP : AP xt d fi P A0 h0 W0 EN ca cp bx by_ T i k (dAp call T i cp k)) : AP xt d fi P A0 h0 W0 EN ca cp bx by_ T i (k + 1) (dAp call T i cp (k + 1)) := by
  intro A h t dq W s st p nw sf lq wq l w dd nx hEN hD hs hp hl hw ht hdq hst hk
  obtain ⟨hM, hB, h32, ⟨pl, ou, h16, hcp⟩, hc0⟩ := hD
  obtain ⟨⟨ff, f33, fff⟩, f3⟩ := hM.2.2.2.1
  obtain ⟨fl, fn, fm, fb, fo, fx, fy, hfr⟩ := f3 dq (by omega)
  have hp127 := fz_127 hM hp
  have hk4 : k < 4 := Nat.lt_of_lt_of_le hkA (soN_le 4 (i + 1))
  have hWle := BI_le hB hs.1
  have hlen := hM.1
  have hwm := vw1_m (cv_wf hw.1).1
  have hw1 : vk w ≤ 1 → vm w = 1 := fun z => ((cv_wf hw.1).1.2.1 z).1
  have n32 : (34 + dq) ≠ 32 := by omega
  have n16 : (34 + dq) ≠ 16 := by omega
  by_cases hW3 : W < 3
  · have e1 : dAp call T i cp (k + 1) l w W = dEr cp W 10 (tqP (T i) : Int) := if_pos hW3
    rw [e1] at hk
    cases lq with
    | none =>
      refine tn_adv (bl := none) (bw := some wq) (by omega) h16 (by omega) (m_advWO (e := 6) (fr := 34 + dq) (by omega) hM.2.1 hK h16 h32 (by omega) f33 (by omega) (fff dq (by omega)) (by omega) hfr hp.2.2 hp127 hkA (by omega) (by omega) hw.1 (by omega) rfl) (fun h1 hq => ?_)
      subst hq
      exact err_s16 (e := 10) (by omega) hM hB hs.1 (Nat.le_refl _) (by omega) h16 h32 rfl hcp hc0 hk
    | some ql =>
      cases l with
      | none => exact hl.elim
      | some v =>
        refine tn_adv (bl := some ql) (bw := some wq) (by omega) h16 (by omega) (m_advWT (e := 6) (fr := 34 + dq) (by omega) hM.2.1 hK h16 h32 (by omega) f33 (by omega) (fff dq (by omega)) (by omega) hfr hp.2.2 hp127 hkA (by omega) (by omega) hw.1 hl.1 (by omega) rfl) (fun h1 hq => ?_)
        subst hq
        exact err_s16 (e := 10) (by omega) hM hB hs.1 (Nat.le_refl _) (by omega) h16 h32 rfl hcp hc0 hk
  · have hWc : (W : Int) - 3 = ((W - 3 : Nat) : Int) := by omega
    by_cases h39 : tqD (T (i + 1 + k)) = 39
    · cases lq with
      | none =>
        cases l with
        | some v => exact hl.elim
        | none =>
          have e1 : dAp call T i cp (k + 1) none w W = dLp (fun j W => dAp call T i cp k none (vit w j) W) (fun W ch => dGa cp W (vm w) ch (tqP (T i) : Int)) (vm w) 0 (fun _ => w) (W - 3) := (if_neg hW3).trans (if_pos h39)
          rw [e1] at hk
          refine tn_adv (bl := none) (bw := some wq) (by omega) h16 (by omega) (m_advEO (e := 6) (fr := 34 + dq) (by omega) hM.2.1 hK h16 h32 (by omega) f33 (by omega) (fff dq (by omega)) (by omega) hfr hp.2.2 hp127 hkA (by omega) (by omega) hw.1 (by omega) h39 (by omega) rfl) (fun h1 hq => ?_)
          obtain ⟨x1, hL⟩ := adv_LST (h1 := h1) (W := W) (s := s) (dq := dq) (nw := nw) (p := p) (wq := wq) (k := k) (ca := ca) (cp := cp) (bx := bx) (by_ := by_) (t := t) (m := 0) (j := 0) (n := vm w) (lq := none) (a := 0) (b := 0) (sf1 := sf) (ch := fun _ => w) hM hB hcp hc0 (by omega) (by omega) (by rw [hq]; exact FX_set (Or.inr (Or.inr rfl)) (hl_ne n16 hfr) rfl (FX_set (Or.inl rfl) h16 rfl (FX_rf _ h))) (by omega) (by omega) (by rw [hq, List.getElem?_set_ne n16]; exact List.getElem?_set_self (hl_lt h16)) (by rw [hq, List.getElem?_set_ne n32, List.getElem?_set_ne (by decide)]; exact h32) (by rw [hq]; exact List.getElem?_set_self (by rw [List.length_set]; omega)) (fun x hx => absurd hx (Nat.not_lt_zero x))
          exact run_each0 hx1 hd hK hca hW0 hEk hAP hkA had h39 rfl (by omega) (c := 890) (by omega) (by omega) (by omega) (vm w) 0 rfl (newA A h h1) h1 (W - 3) (st + 1) sf (fun _ => w) (hEk A h h1 hM (MF_dn (Nat.zero_le _) x1) hEN) hL (fzC_k (MF_kp hM.2.1 x1) hp) (gv_MF hM.2.1 x1 hw) (by omega) (Kon_tr hk x1 (fun _ _ => rfl) (by omega))
      | some ql =>
        cases l with
        | none => exact hl.elim
        | some v =>
          have hv1 : vk v ≤ 1 → vm v = 1 := fun z => ((cv_wf hl.1).1.2.1 z).1
          have hvm := vw1_m (cv_wf hl.1).1
          by_cases hun : ¬ vk v ≤ 1 ∧ ¬ vk w ≤ 1 ∧ vm v ≠ vm w
          · have e1 : dAp call T i cp (k + 1) (some v) w W = dEr cp (W - 3) 4 (tqP (T i) : Int) := (if_neg hW3).trans ((if_pos h39).trans (if_pos hun))
            rw [e1] at hk
            refine tn_adv (bl := some ql) (bw := some wq) (by omega) h16 (by omega) (m_advUT (e := 6) (fr := 34 + dq) (by omega) hM.2.1 hK h16 h32 (by omega) f33 (by omega) (fff dq (by omega)) (by omega) hfr hp.2.2 hp127 hkA (by omega) (by omega) hw.1 hl.1 (by omega) h39 hun (by omega) rfl) (fun h1 hq => ?_)
            rw [hWc] at hq
            subst hq
            exact err_s16 (e := 4) (by omega) hM hB hs.1 (by omega) (by omega) h16 h32 rfl hcp hc0 hk
          · obtain ⟨n, hn⟩ : ∃ n, n = (if vk w ≤ 1 then vm v else vm w) := ⟨_, rfl⟩
            have e1 : dAp call T i cp (k + 1) (some v) w W = dLp (fun j W => dAp call T i cp k (some (vit v j)) (vit w j) W) (fun W ch => dGa cp W n ch (tqP (T i) : Int)) n 0 (fun _ => w) (W - 3) := by
              rw [hn]; exact (if_neg hW3).trans ((if_pos h39).trans (if_neg hun))
            rw [e1] at hk
            have hn2 : (if vk v ≤ 1 then (vm w : Int) else (vm v : Int)) = ((n : Nat) : Int) := by
              rw [hn]
              by_cases z1 : vk v ≤ 1
              · by_cases z2 : vk w ≤ 1
                · rw [if_pos z1, if_pos z2]; have := hv1 z1; have := hw1 z2; omega
                · rw [if_pos z1, if_neg z2]
              · by_cases z2 : vk w ≤ 1
                · rw [if_neg z1, if_pos z2]
                · rw [if_neg z1, if_neg z2]; omega
            have hnb : n ≤ 120 ∧ (vk v ≤ 1 ∨ n ≤ vm v) ∧ (vk w ≤ 1 ∨ n ≤ vm w) := by
              by_cases z1 : vk v ≤ 1
              · rw [if_pos z1] at hn2; omega
              · rw [if_neg z1] at hn2; omega
            refine tn_adv (bl := some ql) (bw := some wq) (by omega) h16 (by omega) (m_advET (e := 6) (fr := 34 + dq) (by omega) hM.2.1 hK h16 h32 (by omega) f33 (by omega) (fff dq (by omega)) (by omega) hfr hp.2.2 hp127 hkA (by omega) (by omega) hw.1 hl.1 (by omega) h39 hun (by omega) rfl) (fun h1 hq => ?_)
            rw [hn2] at hq
            obtain ⟨x1, hL⟩ := adv_LST (h1 := h1) (W := W) (s := s) (dq := dq) (nw := nw) (p := p) (wq := wq) (k := k) (ca := ca) (cp := cp) (bx := bx) (by_ := by_) (t := t) (m := 0) (j := 0) (n := n) (lq := some ql) (a := 0) (b := 0) (sf1 := sf) (ch := fun _ => w) hM hB hcp hc0 (by omega) (by omega) (by rw [hq]; exact FX_set (Or.inr (Or.inr rfl)) (hl_ne n16 hfr) rfl (FX_set (Or.inl rfl) h16 rfl (FX_rf _ h))) (by omega) (by omega) (by rw [hq, List.getElem?_set_ne n16]; exact List.getElem?_set_self (hl_lt h16)) (by rw [hq, List.getElem?_set_ne n32, List.getElem?_set_ne (by decide)]; exact h32) (by rw [hq]; exact List.getElem?_set_self (by rw [List.length_set]; omega)) (fun x hx => absurd hx (Nat.not_lt_zero x))
            exact run_each1 hx1 hd hK hca hW0 hEk hAP hkA had h39 hnb.2.1 hnb.2.2 hnb.1 (c := 890) (by omega) (by omega) (by omega) n 0 rfl (newA A h h1) h1 (W - 3) (st + 1) sf (fun _ => w) (hEk A h h1 hM (MF_dn (Nat.zero_le _) x1) hEN) hL (fzC_k (MF_kp hM.2.1 x1) hp) (gv_MF hM.2.1 x1 hl) (gv_MF hM.2.1 x1 hw) (by omega) (Kon_tr hk x1 (fun _ _ => rfl) (by omega))
    · cases lq with
      | none =>
        cases l with
        | some v => exact hl.elim
        | none =>
          by_cases hz0 : vm w = 0
          · have e1 : dAp call T i cp (k + 1) none w W = dEr cp (W - 3) 4 (tqP (T i) : Int) := (if_neg hW3).trans ((if_neg h39).trans (if_pos hz0))
            rw [e1] at hk
            refine tn_adv (bl := none) (bw := some wq) (by omega) h16 (by omega) (m_advZO (e := 6) (fr := 34 + dq) (by omega) hM.2.1 hK h16 h32 (by omega) f33 (by omega) (fff dq (by omega)) (by omega) hfr hp.2.2 hp127 hkA (by omega) (by omega) hw.1 (by omega) h39 hz0 (by omega) rfl) (fun h1 hq => ?_)
            rw [hWc] at hq
            subst hq
            exact err_s16 (e := 4) (by omega) hM hB hs.1 (by omega) (by omega) h16 h32 rfl hcp hc0 hk
          · have e1 : dAp call T i cp (k + 1) none w W = dFo (fun j v W => dAp call T i cp k (some v) (vit w j) W) (fun W v ch => if tqD (T (i + 1 + k)) = 47 then (W, .inr v) else dGa cp W (vm w) ch (tqP (T i) : Int)) (vm w - 1) 1 1 (vit w 0) (fun _ => vit w 0) (W - 3) := (if_neg hW3).trans ((if_neg h39).trans (if_neg hz0))
            rw [e1] at hk
            refine tn_adv (bl := none) (bw := some wq) (by omega) h16 (by omega) (m_advFO (e := 6) (fr := 34 + dq) hx1 (by omega) hM.1 hM.2.1 hK h16 h32 (by omega) f33 (by omega) (fff dq (by omega)) (by omega) hfr hp.2.2 hp127 hkA (by omega) (by omega) hw.1 (by omega) h39 hz0 (by omega)) (fun h1 hq => ?_)
            obtain ⟨q2, gx, g16, g32, gfr, gq⟩ := hq
            have hvi := vlv_it (j := 0) (cv_wf hw.1).1 hw.2.2 hw.2.1 (Or.inr (by omega))
            have hs1 := hs.2 rfl
            obtain ⟨x1, hL⟩ := adv_LST (h1 := h1) (W := W) (s := s) (dq := dq) (nw := nw) (p := p) (wq := wq) (k := k) (ca := ca) (cp := cp) (bx := bx) (by_ := by_) (t := t) (m := 1) (j := 1) (n := vm w) (lq := none) (a := 1) (b := 9) (sf1 := va_up sf t (some q2)) (ch := fun _ => vit w 0) hM hB hcp hc0 (by omega) (by omega) gx (by omega) (by omega) g16 g32 gfr (fun x hx => ⟨q2, by rw [show x = 0 by omega]; exact up_eq _ _ _, gq, hvi.1, hvi.2⟩)
            rcases hA3 with z | z | z
            · exact absurd z h39
            · exact run_fold47 hx1 hd hK hca hW0 hEk hAP hkA had z rfl (by omega) (c := 890) (by omega) (by omega) (by omega) (vm w - 1) 1 1 (by omega) (newA A h h1) h1 (W - 3) (st + 1) (va_up sf t (some q2)) (vit w 0) (fun _ => vit w 0) (hEk A h h1 hM (MF_dn (Nat.zero_le _) x1) hEN) hL (fzC_k (MF_kp hM.2.1 x1) hp) (gv_MF hM.2.1 x1 hw) (by omega) (Kon_tr hk x1 (fun y hy => up_ne _ _ (by omega)) (by omega))
            · exact run_fold92 hx1 hd hK hca hW0 hEk hAP hkA had z rfl (by omega) (by omega) (c := 890) (by omega) (by omega) (by omega) (vm w - 1) 1 0 (by omega) (by omega) (newA A h h1) h1 (W - 3) (st + 1) (va_up sf t (some q2)) (vit w 0) (fun _ => vit w 0) rfl (hEk A h h1 hM (MF_dn (Nat.zero_le _) x1) hEN) hL (fzC_k (MF_kp hM.2.1 x1) hp) (gv_MF hM.2.1 x1 hw) (by omega) (Kon_tr hk x1 (fun y hy => up_ne _ _ (by omega)) (by omega))
      | some ql =>
        cases l with
        | none => exact hl.elim
        | some v =>
          have e1 : dAp call T i cp (k + 1) (some v) w W = dFo (fun j v W => dAp call T i cp k (some v) (vit w j) W) (fun W v ch => if tqD (T (i + 1 + k)) = 47 then (W, .inr v) else dGa cp W (vm w + 1) ch (tqP (T i) : Int)) (vm w) 0 1 v (fun _ => v) (W - 3) := (if_neg hW3).trans (if_neg h39)
          rw [e1] at hk
          refine tn_adv (bl := some ql) (bw := some wq) (by omega) h16 (by omega) (m_advFT (e := 6) (fr := 34 + dq) (by omega) hM.2.1 hK h16 h32 (by omega) f33 (by omega) (fff dq (by omega)) (by omega) hfr hp.2.2 hp127 hkA (by omega) (by omega) hw.1 hl.1 (by omega) h39 (by omega) rfl) (fun h1 hq => ?_)
          have n3216 : (32 : Nat) ≠ 16 := by decide
          have fxh : FX (fun y => y = 16 ∨ y = 32 ∨ y = 34 + dq) 0 0 h h1 := by
            rw [hq]; exact FX_set (Or.inr (Or.inr rfl)) (hl_ne n16 (hl_ne n32 hfr)) rfl (FX_set (Or.inl rfl) (hl_ne (Ne.symm n3216) h16) rfl (FX_set (Or.inr (Or.inl rfl)) h32 rfl (FX_rf _ h)))
          have gfr : h1[34 + dq]? = some (cO 0 [ii ((k + 1 : Nat) : Int), .ref p, oV (some ql), .ref wq, ii ((0 : Nat) : Int), ii ((vm w : Nat) : Int), ii ((t : Nat) : Int)]) := by rw [hq]; exact List.getElem?_set_self (by rw [List.length_set, List.length_set]; omega)
          obtain ⟨x0, -⟩ := MH_fx hM fxh (by omega) gfr
          obtain ⟨x1, hL⟩ := adv_LST (h1 := h1) (W := W) (s := s) (dq := dq) (nw := nw) (p := p) (wq := wq) (k := k) (ca := ca) (cp := cp) (bx := bx) (by_ := by_) (t := t) (m := 1) (j := 0) (n := vm w) (lq := some ql) (a := 0) (b := 0) (sf1 := va_up sf t (some ql)) (ch := fun _ => v) hM hB hcp hc0 (by omega) (by omega) fxh (by omega) (by omega) (by rw [hq, List.getElem?_set_ne n16]; exact List.getElem?_set_self (by rw [List.length_set]; exact hl_lt h16)) (by rw [hq, List.getElem?_set_ne n32, List.getElem?_set_ne (Ne.symm n3216)]; exact List.getElem?_set_self (hl_lt h32)) gfr (fun x hx => ⟨ql, by rw [show x = 0 by omega]; exact up_eq _ _ _, gv_MF hM.2.1 x0 hl⟩)
          rcases hA3 with z | z | z
          · exact absurd z h39
          · exact run_fold47 hx1 hd hK hca hW0 hEk hAP hkA had z rfl (by omega) (c := 890) (by omega) (by omega) (by omega) (vm w) 0 1 rfl (newA A h h1) h1 (W - 3) (st + 1) (va_up sf t (some ql)) v (fun _ => v) (hEk A h h1 hM (MF_dn (Nat.zero_le _) x1) hEN) hL (fzC_k (MF_kp hM.2.1 x1) hp) (gv_MF hM.2.1 x1 hw) (by omega) (Kon_tr hk x1 (fun y hy => up_ne _ _ (by omega)) (by omega))
          · exact run_fold92 hx1 hd hK hca hW0 hEk hAP hkA had z rfl (by omega) (by omega) (c := 890) (by omega) (by omega) (by omega) (vm w) 0 0 rfl (by omega) (newA A h h1) h1 (W - 3) (st + 1) (va_up sf t (some ql)) v (fun _ => v) rfl (hEk A h h1 hM (MF_dn (Nat.zero_le _) x1) hEN) hL (fzC_k (MF_kp hM.2.1 x1) hp) (gv_MF hM.2.1 x1 hw) (by omega) (Kon_tr hk x1 (fun y hy => up_ne _ _ (by omega)) (by omega))
/-- all ADVERBS of an act -/
theorem AP_all (hx1 : xt 1 = some (.long, 0, f1)) (hd : 82 ≤ d) (hK : TOKS T mk ln) (hca : ca ≤ 10) (hW0 : W0 ≤ 500000) (hEk : ENk EN) (hA3 : ∀ j, tqS (T j) = 6 → tqD (T j) = 39 ∨ tqD (T j) = 47 ∨ tqD (T j) = 92) (hAP : AP xt d fi P A0 h0 W0 EN ca cp bx by_ T i 0 (dAp call T i cp 0)) : ∀ k, k ≤ avM T i → AP xt d fi P A0 h0 W0 EN ca cp bx by_ T i k (dAp call T i cp k) := by
  intro k
  induction k with
  | zero => intro _; exact hAP
  | succ k ih =>
    intro hk
    have hk1 : k < avM T i := by omega
    have h6 : tqS (T (i + 1 + k)) = 6 := soN_at 4 (i + 1) k hk1
    have a3 := hA3 _ h6
    exact AP_s hx1 hd hK hca hW0 hEk (by omega) (by omega) a3 (ih (by omega))
end advs
