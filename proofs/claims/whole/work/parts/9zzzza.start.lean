/-! the state behind both constructors -/
def s00 : RS := (fun k => if k = 3 then 1 else if k = 4 then 4 else if k = 6 then -1 else if k = 8 then 500000 else if k = 30 then 3 else if k = 31 then 3 else if k = 58 then -1 else if k = 59 then -1 else 0, fun _ => 0, va_up (fun _ _ => 0) 2 (va_up (fun _ => 0) 3 8), fun _ _ => 0)
def hS0 : mj_H := pg_h0 ++ (cT ++ (rT ++ []))
set_option maxRecDepth 100000 in
theorem st_r : hS0 = rS (pg_h0 ++ cT) [] s00 := by
  have e0 : vp_updL (fun _ => (0 : Int64)) 0 (0 : Int64) = fun _ => 0 := funext fun j => by unfold vp_updL; split <;> rfl
  have e1 : upd (fun _ => (0 : Int32)) 3 (0 : Int32) = fun _ => 0 := funext fun j => by unfold upd; split <;> rfl
  have e2 : upd (fun _ => (0 : Int32)) 3 (8 : Int32) = fun j => Int32.ofInt (va_up (fun _ => (0 : Int)) 3 8 j) := n_upd (fun _ => (0 : Int)) 3 8
  have eR : rT = rC 102 (fun k => Int32.ofInt (s00.1 k)) s00.2.1 (fun k j => Int32.ofInt (s00.2.2.1 k j)) s00.2.2.2 := by
    unfold rT
    rw [e0, e1, e2]
    rfl
  show pg_h0 ++ (cT ++ (rT ++ [])) = (pg_h0 ++ cT) ++ (rC 102 (fun k => Int32.ofInt (s00.1 k)) s00.2.1 (fun k j => Int32.ofInt (s00.2.2.1 k j)) s00.2.2.2 ++ [])
  rw [eR, List.append_assoc]
def A00 (a : Nat) : Prop := a = 25 ∨ a = 101
set_option maxRecDepth 100000 in
theorem st_len : hS0.length = 127 := by decide +kernel
set_option maxRecDepth 100000 in
theorem st_sl : mj_sl hS0 ≤ 2278000 := by decide +kernel
abbrev fr00 : mj_E := cO 0 [ii 0, .null, .null, .null, ii 0, ii 0, ii 0]
set_option maxRecDepth 100000 in
theorem st_fr : hS0 = hS0.take 34 ++ (List.replicate 64 fr00 ++ hS0.drop 98) := rfl
theorem st_cv {p : Nat} {d : Nat} (hp : 2 ≤ p) (hA : A00 p) (hc : hS0[p]? = some (cO 10 [ii 0, .long 0, .ref 1, .null, ii 0, ii 1, ii 0, ii 1, ii 0])) : cv A00 hS0 (d + 1) p (v1 0 0) := by
  have e1 : vsz (d + 1) (v1 0 0) = 1 := rfl
  have e2 : vlv (d + 1) (v1 0 0) = 0 := rfl
  refine ⟨vw1_one (by decide), ⟨hp, hA⟩, by rw [e1]; decide, by rw [e2]; decide, 1, 0, .null, hc, by decide, fun _ => ⟨rfl, rfl, rfl⟩, fun h => absurd h (by decide), fun h => absurd h (by decide)⟩
set_option maxRecDepth 100000 in
theorem st_MH : MH A00 hS0 := by
  refine ⟨by rw [st_len]; decide, fun a ha => ?_, ?_, ⟨⟨_, rfl, by decide⟩, fun i hi => ?_⟩, st_cv (by decide) (Or.inl rfl) rfl, _, rfl⟩
  · rw [st_len]
    unfold A00 at ha
    omega
  · exact ⟨rfl, ⟨fun _ => 0, rfl⟩, ⟨fun _ => 0, rfl⟩, ⟨0, rfl, by decide, by decide⟩, ⟨fun _ => 0, rfl⟩, ⟨fun _ => 0, rfl⟩, ⟨0, 0, 0, 0, 0, 0, false, _, _, 0, 0, rfl⟩, ⟨fun _ => 0, rfl⟩, ⟨0, rfl⟩, ⟨0, 0, 0, 0, 0, 0, false, _, _, 0, 0, rfl⟩, ⟨fun _ => 0, rfl⟩, ⟨fun _ => 0, rfl⟩, ⟨fun _ => 0, rfl⟩, ⟨fun _ => none, rfl⟩⟩
  · refine ⟨0, 0, 0, 0, .null, .null, .null, ?_⟩
    have l34 : (hS0.take 34).length = 34 := rfl
    rw [st_fr, List.getElem?_append_right (by omega), List.getElem?_append_left (by rw [List.length_replicate]; omega), List.getElem?_replicate, if_pos (by omega)]
theorem st_gr : gr s00 3 (v1 0 0) := by
  refine ⟨by decide, ⟨vw1_one (by decide), by decide, rfl, 0, rfl, by decide, fun _ k hk => rfl, fun h => absurd h (by decide)⟩, by decide, by decide⟩
theorem st_rm {a b : Nat} (ha : a = 127) (hb : b ≤ 2278000) : 7 * a + 6 * 500000 + 60 * 0 + 1200 * 512 ≤ 4200000 ∧ b + 8 * 500000 + 100 * 0 + 2000 * 512 ≤ 7302000 := by omega
set_option maxRecDepth 100000 in
theorem INV_0 : INV 512 hS0 := by
  have hg : gv A00 hS0 101 (v1 0 0) := ⟨st_cv (by decide) (Or.inr rfl) rfl, by decide, by decide⟩
  refine ⟨A00, pg_h0 ++ cT, [], s00, 0, 500000, 101, 101, 3, 3, 0, 0, 0, 0, -1, 0, fun _ => 0, fun _ => 0, v1 0 0, v1 0 0, fun _ => none, fun _ => none, fun _ => none, fun _ => 0, fun _ => 0, ⟨st_r, rfl⟩, ⟨by decide, Or.inl rfl, by decide⟩, ⟨rfl, st_MH, ⟨0, 0, 0, false, fun _ => 0, fun _ => 0, fun _ => 0, ⟨rfl, rfl, rfl, rfl, rfl, by decide, by decide⟩, fun _ => ⟨by show (0 : Int) ≤ 0; decide, by show (0 : Int) ≤ 7; decide⟩⟩, ⟨0, 0, 0, 0, _, _, rfl⟩, ⟨0, 0, 0, 0, 0, 0, 0, _, _, _, _, _, _, rfl⟩, ⟨_, rfl⟩, ⟨rfl, ⟨fun _ => 0, rfl⟩, rfl⟩, rfl⟩, ⟨⟨rfl, rfl, rfl, rfl, rfl⟩, fun j => ⟨by show (-128 : Int) ≤ 0; decide, by show (0 : Int) ≤ 127; decide⟩, fun j => rfl, ⟨rfl, by decide⟩, fun j hj => absurd hj (Nat.not_lt_zero j)⟩, ⟨⟨rfl, rfl⟩, hg, st_gr, hg.1, st_gr.2.1⟩, ⟨⟨rfl, rfl, rfl, rfl, rfl⟩, ⟨by decide, rfl, rfl⟩, fun j hj => absurd hj (Nat.not_lt_zero j), fun j hj => absurd hj (Nat.not_lt_zero j), ENA_0, ENA_0⟩, ⟨fun _ => 0, fun k _ => Or.inl ⟨rfl, rfl⟩, fun k k' _ _ _ h => absurd rfl h⟩, (st_rm st_len st_sl).1, (st_rm st_len st_sl).2, ⟨by decide, by decide⟩, ⟨by decide, by decide⟩, ⟨by decide, by decide⟩⟩
