/-! BREACHES as a list: the CLAUSE, the TOKEN -/
abbrev I2 := Int32 × Int32
def brs (mt : Nat → Int32 → Bool) (tb : Nat → Nat → Bool) (tok : Nat → Int32) (c : Nat) : Nat → Nat → List I2
  | 0, _ => []
  | m + 1, t => if mt c (tok t) = true ∧ ¬ tb c t = true then (Int32.ofNat c, Int32.ofNat t) :: brs mt tb tok c m (t + 1) else brs mt tb tok c m (t + 1)
def brl (mt : Nat → Int32 → Bool) (tb : Nat → Nat → Bool) (tok : Nat → Int32) (n : Nat) : List Nat → List I2
  | [] => []
  | c :: R => brs mt tb tok c n 0 ++ brl mt tb tok n R
section BRL
variable {mt : Nat → Int32 → Bool} {tb : Nat → Nat → Bool} {tok : Nat → Int32} {c m t n : Nat}
theorem brs_y (h : mt c (tok t) = true ∧ ¬ tb c t = true) : brs mt tb tok c (m + 1) t = (Int32.ofNat c, Int32.ofNat t) :: brs mt tb tok c m (t + 1) := by show (if _ then _ else _) = _; rw [if_pos h]
theorem brs_n (h : ¬ (mt c (tok t) = true ∧ ¬ tb c t = true)) : brs mt tb tok c (m + 1) t = brs mt tb tok c m (t + 1) := by show (if _ then _ else _) = _; rw [if_neg h]
theorem brs_len : ∀ (m t : Nat), (brs mt tb tok c m t).length ≤ m := by
  intro m
  induction m with
  | zero => intro t; exact Nat.le_refl _
  | succ m ih =>
    intro t
    have := ih (t + 1)
    by_cases w : mt c (tok t) = true ∧ ¬ tb c t = true
    · rw [brs_y w]; show (brs mt tb tok c m (t + 1)).length + 1 ≤ m + 1; omega
    · rw [brs_n w]; omega
theorem brs_none : ∀ (m t : Nat), (∀ k, t ≤ k → k < t + m → ¬ mt c (tok k) = true) → brs mt tb tok c m t = [] := by
  intro m
  induction m with
  | zero => intro t _; rfl
  | succ m ih =>
    intro t h
    rw [brs_n (fun z => h t (Nat.le_refl _) (by omega) z.1)]
    exact ih (t + 1) (fun k h1 h2 => h k (by omega) (by omega))
theorem brl_f {sp : Nat → Bool} (h : ∀ c k, k < n → mt c (tok k) = true → sp c = true) : ∀ (W : List Nat), brl mt tb tok n (W.filter sp) = brl mt tb tok n W := by
  intro W
  induction W with
  | nil => rfl
  | cons q W ih =>
    by_cases w : sp q = true
    · rw [List.filter_cons_of_pos w]
      show brs mt tb tok q n 0 ++ brl mt tb tok n (W.filter sp) = _
      rw [ih]; rfl
    · rw [List.filter_cons_of_neg w, ih]
      show _ = brs mt tb tok q n 0 ++ brl mt tb tok n W
      rw [brs_none n 0 (fun k _ h2 z => w (h q k (by omega) z))]; rfl
theorem brl_len : ∀ (W : List Nat) (b : Nat), W.length ≤ b → (brl mt tb tok n W).length ≤ n * b := by
  intro W
  induction W with
  | nil => intro b _; exact Nat.zero_le _
  | cons q W ih =>
    intro b hb
    obtain ⟨b, rfl⟩ : ∃ d, b = d + 1 := ⟨b - 1, by have h : W.length + 1 ≤ b := hb; omega⟩
    have h1 := ih b (by have h : W.length + 1 ≤ b + 1 := hb; omega)
    have h2 := brs_len (mt := mt) (tb := tb) (tok := tok) (c := q) n 0
    have e : n * (b + 1) = n * b + n := Nat.mul_succ n b
    rw [e]
    show (brs mt tb tok q n 0 ++ brl mt tb tok n W).length ≤ _
    rw [List.length_append]; omega
end BRL
theorem skp_past {α : Type} {i : Int} : ∀ (L : List α) (n : Int), i < n → skp i n L = none := by
  intro L
  induction L with
  | nil => intro n _; rfl
  | cons x L ih =>
    intro n h
    show (if n = i then some x else skp i (n + 1) L) = none
    rw [if_neg (by omega)]
    exact ih (n + 1) (by omega)
/-- whether each WORD by which a TOKEN is turned is this one, and there is one -/
def tby (trn wrd : Nat → Int32) (t w : Int) : Nat → Nat → Bool → Bool
  | 0, _, b => b
  | m + 1, X, b => if (trn X).toInt = t then (if (wrd X).toInt = w then tby trn wrd t w m (X + 1) true else false) else tby trn wrd t w m (X + 1) b
theorem tby_eq {trn wrd trn' wrd' : Nat → Int32} {t w : Int} : ∀ (m X : Nat) (b : Bool), (∀ k, X ≤ k → k < X + m → trn k = trn' k ∧ wrd k = wrd' k) → tby trn wrd t w m X b = tby trn' wrd' t w m X b := by
  intro m
  induction m with
  | zero => intro X b _; rfl
  | succ m ih =>
    intro X b h
    obtain ⟨h1, h2⟩ := h X (Nat.le_refl _) (by omega)
    show (if (trn X).toInt = t then (if (wrd X).toInt = w then tby trn wrd t w m (X + 1) true else false) else tby trn wrd t w m (X + 1) b) = (if (trn' X).toInt = t then (if (wrd' X).toInt = w then tby trn' wrd' t w m (X + 1) true else false) else tby trn' wrd' t w m (X + 1) b)
    rw [h1, h2, ih (X + 1) true (fun k k1 k2 => h k (by omega) (by omega)), ih (X + 1) b (fun k k1 k2 => h k (by omega) (by omega))]
theorem tb_x {u0 u1 : Int32} {r N : Nat} {ogn : Nat → Nat → Nat} {ogc : Nat → Nat → Nat → Int32} (hN : ogn 4 r = N) (hN2 : N ≤ 12) : ∀ (m f X : Nat) (b : Bool) (x2 x4 : Int32), x4.toInt = (X : Int) → N = X + m → m < f → x2 = (if b = true then 1 else 0) →
    f_x7_isTurnedByOnly_j1 u0 u1 r ogn ogc f x2 x4 = if tby (ogc 5 r) (ogc 4 r) u0.toInt u1.toInt m X b = true then 1 else 0 := by
  have eN : (Int32.ofNat (ogn 4 r)).toInt = (N : Int) := by rw [hN]; exact nI_toInt (by omega)
  intro m
  induction m with
  | zero =>
    intro f X b x2 x4 hx hm hf hb
    obtain ⟨f, rfl⟩ : ∃ w, f = w + 1 := ⟨f - 1, by omega⟩
    rw [S_x7_isTurnedByOnly_j1, if_pos (by omega), hb]; rfl
  | succ m ih =>
    intro f X b x2 x4 hx hm hf hb
    obtain ⟨f, rfl⟩ : ∃ w, f = w + 1 := ⟨f - 1, by omega⟩
    have hx1 := toInt_add hx co1 (by omega) (by omega)
    rw [S_x7_isTurnedByOnly_j1, if_neg (by omega), nc hx]
    show _ = if (if (ogc 5 r X).toInt = u0.toInt then (if (ogc 4 r X).toInt = u1.toInt then tby (ogc 5 r) (ogc 4 r) u0.toInt u1.toInt m (X + 1) true else false) else tby (ogc 5 r) (ogc 4 r) u0.toInt u1.toInt m (X + 1) b) = true then 1 else 0
    by_cases w : (ogc 5 r X).toInt = u0.toInt
    · rw [if_pos w, if_pos w]
      by_cases w2 : (ogc 4 r X).toInt = u1.toInt
      · rw [if_pos w2, if_pos w2]
        exact ih f (X + 1) true 1 (x4 + Int32.ofInt 1) (by omega) (by omega) (by omega) rfl
      · rw [if_neg w2, if_neg w2]; rfl
    · rw [if_neg w, if_neg w]
      exact ih f (X + 1) b x2 (x4 + Int32.ofInt 1) (by omega) (by omega) (by omega) hb
theorem tb_m {p0 p1 p2 : Int32} {r N : Nat} {b40 b41 b42 : Nat → Int32} (hr : p0.toInt = (r : Int)) (hr2 : r < 200) (hN : (b40 r).toInt = (N : Int)) (hN2 : N ≤ 12) : ∀ (m f X : Nat) (b : Bool) (x3 x4 : Int32), x4.toInt = ((12 * r + X : Nat) : Int) → N = X + m → m < f → 0 ≤ x3.toInt → x3.toInt + m ≤ 1000 → (b = true ↔ 0 < x3.toInt) →
    f_m12_turnsBy_j2 p0 p1 p2 b40 b41 b42 f x3 x4 = if tby (fun k => b42 (12 * r + k)) (fun k => b41 (12 * r + k)) p1.toInt p2.toInt m X b = true then 1 else 0 := by
  have e12 : (((12 : Int32) * p0) + (b40 p0.toNatClampNeg)).toInt = ((12 * r + N : Nat) : Int) := by
    have e1 := toInt_mul sc12 hr rfl (by omega) (by omega)
    have e2 := toInt_add e1 hN (by omega) (by omega)
    rw [nc hr]; omega
  intro m
  induction m with
  | zero =>
    intro f X b x3 x4 hx hm hf _ _ hb
    obtain ⟨f, rfl⟩ : ∃ w, f = w + 1 := ⟨f - 1, by omega⟩
    rw [S_m12_turnsBy_j2, if_pos (by omega)]
    show _ = if b = true then 1 else 0
    by_cases w : b = true
    · have := hb.1 w
      rw [if_neg (by omega), if_pos w]
    · have : ¬ 0 < x3.toInt := fun z => w (hb.2 z)
      rw [if_pos (by omega), if_neg w]
  | succ m ih =>
    intro f X b x3 x4 hx hm hf h0 h1 hb
    obtain ⟨f, rfl⟩ : ∃ w, f = w + 1 := ⟨f - 1, by omega⟩
    have hx1 := toInt_add hx co1 (by omega) (by omega)
    have hx2 := toInt_add (x := x3) rfl co1 (by omega) (by omega)
    have o1 := co1
    rw [S_m12_turnsBy_j2, if_neg (by omega), nc hx]
    show _ = if (if (b42 (12 * r + X)).toInt = p1.toInt then (if (b41 (12 * r + X)).toInt = p2.toInt then tby (fun k => b42 (12 * r + k)) (fun k => b41 (12 * r + k)) p1.toInt p2.toInt m (X + 1) true else false) else tby (fun k => b42 (12 * r + k)) (fun k => b41 (12 * r + k)) p1.toInt p2.toInt m (X + 1) b) = true then 1 else 0
    by_cases w : (b42 (12 * r + X)).toInt = p1.toInt
    · rw [if_pos w, if_pos w]
      by_cases w2 : (b41 (12 * r + X)).toInt = p2.toInt
      · rw [if_pos w2, if_pos w2]
        exact ih f (X + 1) true (x3 + Int32.ofInt 1) (x4 + Int32.ofInt 1) (by omega) (by omega) (by omega) (by omega) (by omega) ⟨fun _ => by omega, fun _ => rfl⟩
      · rw [if_neg w2, if_neg w2]; rfl
    · rw [if_neg w, if_neg w]
      exact ih f (X + 1) b x3 (x4 + Int32.ofInt 1) (by omega) (by omega) (by omega) h0 (by omega) hb
/-- the same for both sides: TOKEN t of RENDERING r by the WORD of CLAUSE c -/
def TB (ogn : Nat → Nat → Nat) (ogc : Nat → Nat → Nat → Int32) (b22 : Nat → Int32) (r c t : Nat) : Bool := tby (ogc 5 r) (ogc 4 r) (t : Int) (b22 c).toInt (ogn 4 r) 0 false
theorem TB_x {u0 u1 : Int32} {r c t : Nat} {ogn : Nat → Nat → Nat} {ogc : Nat → Nat → Nat → Int32} {b22 : Nat → Int32} (hN2 : ogn 4 r ≤ 12) (h0 : u0.toInt = (t : Int)) (h1 : u1.toInt = (b22 c).toInt) : F_x7_isTurnedByOnly u0 u1 r ogn ogc = if TB ogn ogc b22 r c t = true then 1 else 0 := by
  rw [E_x7_isTurnedByOnly, tb_x (N := ogn 4 r) rfl hN2 (ogn 4 r) 201 0 false 0 0 c0 (by omega) (by omega) rfl, h0, h1]; rfl
theorem TB_m {p0 x w : Int32} {r c t : Nat} {ogn : Nat → Nat → Nat} {ogc : Nat → Nat → Nat → Int32} {b22 b40 b41 b42 : Nat → Int32} (hr : p0.toInt = (r : Int)) (hr2 : r < 200) (hN : (b40 r).toInt = (ogn 4 r : Int)) (hN2 : ogn 4 r ≤ 12) (hS : ∀ i, i < ogn 4 r → ogc 4 r i = b41 (12 * r + i) ∧ ogc 5 r i = b42 (12 * r + i)) (h0 : x.toInt = (t : Int)) (h1 : w.toInt = (b22 c).toInt) :
    F_m12_turnsBy p0 x w b40 b41 b42 = if TB ogn ogc b22 r c t = true then 1 else 0 := by
  have e1 := toInt_mul sc12 hr rfl (by omega) (by omega)
  rw [E_m12_turnsBy, tb_m hr hr2 hN hN2 (ogn 4 r) 2401 0 false 0 ((12 : Int32) * p0) (by omega) (by omega) (by omega) (by decide) (by rw [c0]; omega) ⟨fun z => (by cases z), fun z => absurd z (by decide)⟩, h0, h1]
  unfold TB
  rw [tby_eq (trn := fun k => b42 (12 * r + k)) (wrd := fun k => b41 (12 * r + k)) (trn' := ogc 5 r) (wrd' := ogc 4 r) (ogn 4 r) 0 false (fun k _ h2 => ⟨(hS k (by omega)).2.symm, (hS k (by omega)).1.symm⟩)]
