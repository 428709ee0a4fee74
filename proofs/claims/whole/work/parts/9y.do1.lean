/-! the spec of doing: WORK left, and an error with its place, or a value -/
abbrev DR : Type := Nat × ((Nat × Int) ⊕ VV)
abbrev vS (v : VV) : Nat := vsz 7 v
abbrev vL (v : VV) : Nat := vlv 7 v
/-- where an error is told: cp is the place of the outermost call -/
abbrev dPl (cp : Option Int) (pl : Int) : Int := cp.getD pl
def dEr (cp : Option Int) (W e : Nat) (pl : Int) : DR := (W, .inl (e, dPl cp pl))
def dTk (cp : Option Int) (W n : Nat) (pl : Int) (K : Nat → DR) : DR := if W < n then dEr cp W 10 pl else K (W - n)
/-- what was made is taken in -/
def dMk (cp : Option Int) (W price : Nat) (v : VV) (pl : Int) : DR := if 1000 < vS v ∨ 5 < vL v then dEr cp W 8 pl else dTk cp W (price + vS v) pl (fun W => (W, .inr v))
def dAc (cp : Option Int) (W cost : Nat) (o : Nat ⊕ VV) (pl : Int) : DR := dTk cp W cost pl (fun W => match o with
  | .inl e => dEr cp W e pl
  | .inr v => dMk cp W 0 v pl)
def dOne (cp : Option Int) (W : Nat) (vb : Int) (w : VV) (pl : Int) : DR := dAc cp W (3 + vS w) (s_one vb 6 w) pl
def dTwo (cp : Option Int) (W : Nat) (vb : Int) (l w : VV) (pl : Int) : DR := dAc cp W (3 + vS l + vS w) (s_two vb 6 l w) pl
/-- values put into one -/
def gaV (n : Nat) (ch : Nat → VV) : Nat ⊕ VV := if 0 < n ∧ allN n (fun k => decide (vk (ch k) = 0)) = true then (if 120 < n then .inl 8 else .inr (vrow (vform n (fun k => vn (ch k) 0)) n (fun k => vn (ch k) 0)))
  else if 0 < n ∧ allN n (fun k => decide (vk (ch k) = 1)) = true then (if 120 < n then .inl 8 else .inr (vrow 3 n (fun k => vn (ch k) 0)))
  else if 24 < n then .inl 8 else .inr (vnest n ch)
def dGa (cp : Option Int) (W n : Nat) (ch : Nat → VV) (pl : Int) : DR := match gaV n ch with
  | .inl e => dEr cp W e pl
  | .inr v => dMk cp W 3 v pl
def dB (r : DR) (K : Nat → VV → DR) : DR := match r.2 with
  | .inl x => (r.1, .inl x)
  | .inr v => K r.1 v
/-- values made one behind another: j of them stand in ch; at the end K gets all -/
def dLp (f : Nat → Nat → DR) (K : Nat → (Nat → VV) → DR) : Nat → Nat → (Nat → VV) → Nat → DR
  | 0, _, ch, W => K W ch
  | r + 1, j, ch, W => dB (f j W) (fun W v => dLp f K r (j + 1) (va_up ch j v) W)
/-- folding: v is what was made last, ch all that was made -/
def dFo (f : Nat → VV → Nat → DR) (K : Nat → VV → (Nat → VV) → DR) : Nat → Nat → Nat → VV → (Nat → VV) → Nat → DR
  | 0, _, _, v, ch, W => K W v ch
  | r + 1, j, m, v, ch, W => dB (f j v W) (fun W u => dFo f K r (j + 1) (m + 1) u (va_up ch m u) W)
abbrev CF : Type := Int → Option VV → VV → Int → Option Int → Nat → DR
/-- the act at token i with its first k ADVERBS -/
def dAp (call : CF) (T : Nat → Tok) (i : Nat) (cp : Option Int) : Nat → Option VV → VV → Nat → DR
  | 0, l, w, W => if tqS (T i) = 4 then call (tqD (T i)) l w (tqP (T i) : Int) cp W else
    match l with
    | none => dOne cp W (tqD (T i)) w (tqP (T i) : Int)
    | some l => dTwo cp W (tqD (T i)) l w (tqP (T i) : Int)
  | k + 1, l, w, W => dTk cp W 3 (tqP (T i) : Int) (fun W =>
    if tqD (T (i + 1 + k)) = 39 then
      match l with
      | none => dLp (fun j W => dAp call T i cp k none (vit w j) W) (fun W ch => dGa cp W (vm w) ch (tqP (T i) : Int)) (vm w) 0 (fun _ => w) W
      | some l => if ¬ vk l ≤ 1 ∧ ¬ vk w ≤ 1 ∧ vm l ≠ vm w then dEr cp W 4 (tqP (T i) : Int) else
        dLp (fun j W => dAp call T i cp k (some (vit l j)) (vit w j) W) (fun W ch => dGa cp W (if vk w ≤ 1 then vm l else vm w) ch (tqP (T i) : Int)) (if vk w ≤ 1 then vm l else vm w) 0 (fun _ => w) W
    else
      match l with
      | none => if vm w = 0 then dEr cp W 4 (tqP (T i) : Int) else
        dFo (fun j v W => dAp call T i cp k (some v) (vit w j) W) (fun W v ch => if tqD (T (i + 1 + k)) = 47 then (W, .inr v) else dGa cp W (vm w) ch (tqP (T i) : Int)) (vm w - 1) 1 1 (vit w 0) (fun _ => vit w 0) W
      | some l => dFo (fun j v W => dAp call T i cp k (some v) (vit w j) W) (fun W v ch => if tqD (T (i + 1 + k)) = 47 then (W, .inr v) else dGa cp W (vm w + 1) ch (tqP (T i) : Int)) (vm w) 0 1 l (fun _ => l) W)
def dNm (Nv : Int → Option VV) (x y : Option VV) (cp : Option Int) (c pl : Int) (W : Nat) : DR := match (if c = 24 then x else if c = 25 then y else Nv c) with
  | none => dEr cp W 2 pl
  | some v => (W, .inr v)
/-- what is read at token i, worked out; modes as in pR (2: Bq is what stands ahead; 4: the parts in a nest) -/
def eE (call : CF) (T : Nat → Tok) (Nv : Int → Option VV) (x y : Option VV) (cp : Option Int) : Nat → Nat → Nat → Nat → (Nat → DR) → Nat → DR
  | 0, _, _, _, _, W => (W, .inl (1, 0))
  | f + 1, 0, o, i, _, W =>
    if isDs T i then dB (eE call T Nv x y cp f 0 o (dsE T i) (fun W => (W, .inl (1, 0))) W) (fun W w => dAp call T i cp (avM T i) none w W) else
    match pR T f 1 o i with
    | .inl _ => (W, .inl (1, 0))
    | .inr j => if isDs T j then dB (eE call T Nv x y cp f 0 o (dsE T j) (fun W => (W, .inl (1, 0))) W) (fun W w => dB (eE call T Nv x y cp f 1 o i (fun W => (W, .inl (1, 0))) W) (fun W l => dAp call T j cp (avM T j) (some l) w W))
      else eE call T Nv x y cp f 1 o i (fun W => (W, .inl (1, 0))) W
  | f + 1, 1, o, i, _, W =>
    match pR T f 3 o i with
    | .inl _ => (W, .inl (1, 0))
    | .inr j => eE call T Nv x y cp f 2 o j (fun W => eE call T Nv x y cp f 3 o i (fun W => (W, .inl (1, 0))) W) W
  | f + 1, 2, o, j, Bq, W =>
    if isIx T j then
      match pR T f 0 (o + 1) (j + 2) with
      | .inl _ => (W, .inl (1, 0))
      | .inr k => eE call T Nv x y cp f 2 o (k + 1) (fun W => dB (eE call T Nv x y cp f 0 (o + 1) (j + 2) (fun W => (W, .inl (1, 0))) W) (fun W w => dB (Bq W) (fun W l => dTwo cp W 64 l w (tqP (T j) : Int)))) W
    else Bq W
  | f + 1, 3, o, i, _, W =>
    if tqS (T i) = 1 then (W, .inr (nuV T i (soN T 1 201 i))) else
    if tqS (T i) = 2 then (W, .inr (txV T i)) else
    if tqS (T i) = 3 then dNm Nv x y cp (tqD (T i)) (tqP (T i) : Int) W else
    if isMk T i 40 then (if isMk T (i + 1) 41 then dGa cp W 0 (fun _ => vnest 0 (fun _ => v1 0 0)) (tqP (T i) : Int)
      else dB (eE call T Nv x y cp f 4 (o + 1) (i + 1) (fun W => (W, .inl (1, 0))) W) (fun W r => if plN T f (o + 1) (i + 1) = 1 then (W, .inr (vd r 0)) else dGa cp W (plN T f (o + 1) (i + 1)) (vd r) (tqP (T i) : Int))) else
    match pR T f 0 (o + 1) (i + 1) with
    | .inl _ => (W, .inl (1, 0))
    | .inr j => match pR T f 0 (o + 1) (j + 1) with
      | .inl _ => (W, .inl (1, 0))
      | .inr k => dB (eE call T Nv x y cp f 0 (o + 1) (i + 1) (fun W => (W, .inl (1, 0))) W) (fun W c => if vk c ≠ 0 then dEr cp W 5 (tqP (T i) : Int) else if vn c 0 = 0 then eE call T Nv x y cp f 0 (o + 1) (k + 1) (fun W => (W, .inl (1, 0))) W else eE call T Nv x y cp f 0 (o + 1) (j + 1) (fun W => (W, .inl (1, 0))) W)
  | f + 1, _ + 4, o, i, _, W =>
    match pR T f 0 o i with
    | .inl _ => (W, .inl (1, 0))
    | .inr j => if isMk T j 59 then dB (eE call T Nv x y cp f 4 o (j + 1) (fun W => (W, .inl (1, 0))) W) (fun W r => dB (eE call T Nv x y cp f 0 o i (fun W => (W, .inl (1, 0))) W) (fun W v => (W, .inr (vnest (vm r + 1) (fun k => if k = 0 then v else vd r (k - 1))))))
      else dB (eE call T Nv x y cp f 0 o i (fun W => (W, .inl (1, 0))) W) (fun W v => (W, .inr (vnest 1 (fun _ => v))))
/-- a call of a function; k calls more may be open -/
def eC (Nv : Int → Option VV) (Fn : Int → Option (Nat → Tok)) : Nat → CF
  | 0 => fun key _ _ pl cp W => match Fn key with
    | none => dEr cp W 2 pl
    | some _ => dEr cp W 9 pl
  | k + 1 => fun key l w pl cp W => match Fn key with
    | none => dEr cp W 2 pl
    | some T => dTk cp W 5 pl (fun W => eE (eC Nv Fn k) T Nv (some (l.getD w)) (l.map (fun _ => w)) (some (dPl cp pl)) fuR 0 1 3 (fun W => (W, .inl (1, 0))) W)
