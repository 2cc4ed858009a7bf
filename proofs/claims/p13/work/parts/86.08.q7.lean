/-! clauses: what they are read to, and their data, on both sides -/
def Sm (c : Nat) (f g : Nat → Int32) : Prop := ∀ j, j ≠ c → g j = f j
theorem Sm_r {c : Nat} {f : Nat → Int32} : Sm c f f := fun _ _ => rfl
theorem Sm_u {c : Nat} {f : Nat → Int32} {x : Int32} : Sm c f (upd f c x) := fun j h => by unfold upd; rw [if_neg h]
theorem Sm_t {c : Nat} {f g h : Nat → Int32} (a : Sm c f g) (b : Sm c g h) : Sm c f h := fun j hj => (b j hj).trans (a j hj)
theorem upd_s {f : Nat → Int32} {c : Nat} {x : Int32} : upd f c x c = x := by unfold upd; rw [if_pos rfl]
def spR (T : Nat → Int) (p : Nat) : Int × Nat :=
  if ¬ (48 ≤ T p ∧ T p ≤ 50) then (-1000 - (p : Int), p) else if ¬ (48 ≤ T (p + 1) ∧ T (p + 1) ≤ 50) then (-1000 - ((p + 1 : Nat) : Int), p + 1) else if T (p + 1) = T p then (-6000 - ((p + 1 : Nat) : Int), p + 1)
  else if ¬ (48 ≤ T (p + 2) ∧ T (p + 2) ≤ 50) then (-1000 - ((p + 2 : Nat) : Int), p + 2) else if T (p + 2) = T p ∨ T (p + 2) = T (p + 1) then (-6000 - ((p + 2 : Nat) : Int), p + 2) else (0, p + 3)
def spO (T : Nat → Int) (most : Int) (p : Nat) : Int × Nat := ((spN T most p).1, (spN T most p).2.1)
def spH (T : Nat → Int) (p : Nat) : Int × Nat :=
  if ¬ (48 ≤ T p ∧ T p ≤ 49) then (-1000 - (p : Int), p) else if T (p + 1) ≠ 46 then (-1000 - ((p + 1 : Nat) : Int), p + 1) else spO T 100 (p + 2)
def spW2 (T : Nat → Int) (q : Nat) : Int × Nat :=
  if T q ≠ 46 then (-1000 - (q : Int), q) else if ¬ (T (q + 1) = 42 ∨ (48 ≤ T (q + 1) ∧ T (q + 1) ≤ 51)) then (-1000 - ((q + 1 : Nat) : Int), q + 1)
  else if T (q + 2) ≠ 61 then (-1000 - ((q + 2 : Nat) : Int), q + 2) else spO T 79 (q + 3)
def spW (T : Nat → Int) (p : Nat) : Int × Nat := seq (spO T 39 p) (spW2 T)
def spT (T : Nat → Int) (p : Nat) : Int × Nat := if T p = 40 then spC T p else (0, p)
def kOK (c : Int) : Prop := c = 119 ∨ c = 115 ∨ c = 107 ∨ c = 118 ∨ c = 111
def spK (T : Nat → Int) (p : Nat) : Int × Nat :=
  if T p = 119 then seq (spW T (p + 1)) (spT T) else if T p = 115 then spT T (p + 1) else if T p = 107 then spR T (p + 1) else if T p = 118 then spH T (p + 1) else spO T 99999 (p + 1)
def dS (T : Nat → Int) (p : Nat) : Int := if T p = 119 then (spN T 39 (p + 1)).2.2 else if T p = 118 then T (p + 1) - 48 else 0
def dG (T : Nat → Int) (p : Nat) : Int := T ((spN T 39 (p + 1)).2.1 + 1)
def dF (T : Nat → Int) (p : Nat) : Int := if T p = 119 then (if dG T p = 42 then 4 else dG T p - 48) else 0
def dV (T : Nat → Int) (p : Nat) : Int := if T p = 119 then (spN T 79 ((spN T 39 (p + 1)).2.1 + 3)).2.2 else if T p = 107 then 16 * (T (p + 1) - 48) + 4 * (T (p + 2) - 48) + (T (p + 3) - 48) else if T p = 118 then (spN T 100 (p + 3)).2.2 else if T p = 111 then (spN T 99999 (p + 1)).2.2 else 0
section OKS
variable {T : Nat → Int} {n p : Nat}
theorem spO_ok {most : Int} (hT : TXT T n) (hp : p ≤ n) : OKat n p (spO T most p) := by
  rcases spN_bad (most := most) hT hp with h | h
  · have := spN_at hT hp h
    exact Or.inl ⟨h, this.1, this.2.1⟩
  · exact Or.inr h
theorem spR_ok (hT : TXT T n) (hp : p ≤ n) : OKat n p (spR T p) := by
  have h160 := hT.1
  unfold spR
  by_cases h1 : 48 ≤ T p ∧ T p ≤ 50
  · have a1 := T_in hT (p := p) (by omega)
    rw [if_neg (fun q => q h1)]
    by_cases h2 : 48 ≤ T (p + 1) ∧ T (p + 1) ≤ 50
    · have a2 := T_in hT (p := p + 1) (by omega)
      rw [if_neg (fun q => q h2)]
      by_cases h3 : T (p + 1) = T p
      · rw [if_pos h3]; exact Or.inr ⟨by show -6000 - ((p + 1 : Nat) : Int) < 0; omega, by show -10000 < -6000 - ((p + 1 : Nat) : Int); omega⟩
      · rw [if_neg h3]
        by_cases h4 : 48 ≤ T (p + 2) ∧ T (p + 2) ≤ 50
        · have a3 := T_in hT (p := p + 2) (by omega)
          rw [if_neg (fun q => q h4)]
          by_cases h5 : T (p + 2) = T p ∨ T (p + 2) = T (p + 1)
          · rw [if_pos h5]; exact Or.inr ⟨by show -6000 - ((p + 2 : Nat) : Int) < 0; omega, by show -10000 < -6000 - ((p + 2 : Nat) : Int); omega⟩
          · rw [if_neg h5]; exact Or.inl ⟨rfl, by show p < p + 3; omega, by show p + 3 ≤ n; omega⟩
        · rw [if_pos h4]; exact OK_bad (by omega) h160 (by omega)
    · rw [if_pos h2]; exact OK_bad (by omega) h160 (by omega)
  · rw [if_pos h1]; exact OK_bad (by omega) h160 hp
theorem spH_ok (hT : TXT T n) (hp : p ≤ n) : OKat n p (spH T p) := by
  have h160 := hT.1
  unfold spH
  by_cases h1 : 48 ≤ T p ∧ T p ≤ 49
  · have a1 := T_in hT (p := p) (by omega)
    rw [if_neg (fun q => q h1)]
    by_cases h2 : T (p + 1) ≠ 46
    · rw [if_pos h2]; exact OK_bad (by omega) h160 (by omega)
    · have a2 := T_in hT (p := p + 1) (by omega)
      rw [if_neg h2]; exact OK_le (spO_ok hT (by omega)) (by omega)
  · rw [if_pos h1]; exact OK_bad (by omega) h160 hp
theorem spW2_ok (hT : TXT T n) (hp : p ≤ n) : OKat n p (spW2 T p) := by
  have h160 := hT.1
  unfold spW2
  by_cases h1 : T p ≠ 46
  · rw [if_pos h1]; exact OK_bad (by omega) h160 hp
  · have a1 := T_in hT (p := p) (by omega)
    rw [if_neg h1]
    by_cases h2 : T (p + 1) = 42 ∨ (48 ≤ T (p + 1) ∧ T (p + 1) ≤ 51)
    · have a2 := T_in hT (p := p + 1) (by omega)
      rw [if_neg (fun q => q h2)]
      by_cases h3 : T (p + 2) ≠ 61
      · rw [if_pos h3]; exact OK_bad (by omega) h160 (by omega)
      · have a3 := T_in hT (p := p + 2) (by omega)
        rw [if_neg h3]; exact OK_le (spO_ok hT (by omega)) (by omega)
    · rw [if_pos h2]; exact OK_bad (by omega) h160 (by omega)
theorem seq_ok {r : Int × Nat} {f : Nat → Int × Nat} (h : OKat n p r) (hf : ∀ q, p < q → q ≤ n → OKat n p (f q)) : OKat n p (seq r f) := by
  rcases h with ⟨h1, h2, h3⟩ | h
  · rw [seq_y h1]; exact hf _ h2 h3
  · rw [seq_n h.1]; exact Or.inr h
theorem spW_ok (hT : TXT T n) (hp : p ≤ n) : OKat n p (spW T p) := seq_ok (spO_ok hT hp) (fun q h1 h2 => OK_le (spW2_ok hT h2) (by omega))
theorem spT_at (hT : TXT T n) (hp : p ≤ n) : ((spT T p).1 = 0 ∧ p ≤ (spT T p).2 ∧ (spT T p).2 ≤ n) ∨ ((spT T p).1 < 0 ∧ -10000 < (spT T p).1) := by
  unfold spT
  by_cases h : T p = 40
  · have a1 := T_in hT (p := p) (by omega)
    rw [if_pos h]
    rcases spC_ok hT a1 with ⟨h1, h2, h3⟩ | h
    · exact Or.inl ⟨h1, by omega, h3⟩
    · exact Or.inr h
  · rw [if_neg h]; exact Or.inl ⟨rfl, Nat.le_refl _, hp⟩
theorem spK_ok (hT : TXT T n) (hp : p < n) : OKat n p (spK T p) := by
  have tl : ∀ q, p < q → q ≤ n → OKat n p (spT T q) := fun q h1 h2 => by
    rcases spT_at hT h2 with ⟨a, b, c⟩ | h
    · exact Or.inl ⟨a, by omega, c⟩
    · exact Or.inr h
  unfold spK
  split
  · exact seq_ok (OK_le (spW_ok hT (by omega)) (Nat.le_succ p)) tl
  · split
    · exact tl _ (Nat.lt_succ_self p) hp
    · split
      · exact OK_le (spR_ok hT (by omega)) (Nat.le_succ p)
      · split
        · exact OK_le (spH_ok hT (by omega)) (Nat.le_succ p)
        · exact OK_le (spO_ok hT (by omega)) (Nat.le_succ p)
end OKS
/-! the class -/
abbrev R7 := Int32 × Int32 × Int32 × Int32 × (Nat → Int32) × (Nat → Int32) × (Nat → Int32)
theorem XR_pl {c : Int} {q q2 : Nat} {a b : Int32} {t : R4} (h : XR (c, q) a b t) (hc : c < 0) : XR (c, q2) a b t := by
  rcases h with h | h
  · exact absurd h.1 (by show ¬ c = 0; omega)
  · exact Or.inr h
theorem nfull {i9 : Int32} (h : i9.toInt < 20) : F_x2_isFull i9 = 0 := by
  unfold F_x2_isFull; rw [if_pos h]; rfl
theorem cl_idx {i9 u0 : Int32} {r j : Nat} (hi : i9.toInt = (r : Int)) (hj : u0.toInt = (j : Int)) (hr : r < 20) (hj2 : j < 16) : (F_x2_clauseOf i9 u0).toNatClampNeg = 16 * r + j := by
  have c16 : (16 : Int32).toInt = 16 := by decide
  have m : (i9 * (16 : Int32)).toInt = (r : Int) * 16 := toInt_mul hi c16 rfl (by omega) (by omega)
  have m2 := toInt_add m hj (by omega) (by omega)
  exact nc (p := 16 * r + j) (by show (i9 * 16 + u0).toInt = _; omega)
theorem x_putC {i9 u0 k st : Int32} {a22 a26 : Nat → Int32} {r j : Nat} (hi : i9.toInt = (r : Int)) (hj : u0.toInt = (j : Int)) (hr : r < 20) (hj2 : j < 16) : F_x2_putClause u0 k st i9 a22 a26 = (upd a22 (16 * r + j) k, upd a26 (16 * r + j) st) := by
  rw [E_x2_putClause, nfull (by omega), if_neg n00, if_neg (by omega), if_pos (by omega), cl_idx hi hj hr hj2]
theorem x_putM {i9 u0 s f v : Int32} {a23 a24 a25 : Nat → Int32} {r j : Nat} (hi : i9.toInt = (r : Int)) (hj : u0.toInt = (j : Int)) (hr : r < 20) (hj2 : j < 16) : F_x2_putMeaning u0 s f v i9 a23 a24 a25 = (upd a23 (16 * r + j) s, upd a24 (16 * r + j) f, upd a25 (16 * r + j) v) := by
  rw [E_x2_putMeaning, nfull (by omega), if_neg n00, if_neg (by omega), if_pos (by omega), cl_idx hi hj hr hj2]
def X7 (r : Int × Nat) (a b : Int32) (c : Nat) (f3 f4 f5 : Nat → Int32) (s f v : Int) (t : R7) : Prop :=
  XR r a b (t.1, t.2.1, t.2.2.1, t.2.2.2.1) ∧ Sm c f3 t.2.2.2.2.1 ∧ Sm c f4 t.2.2.2.2.2.1 ∧ Sm c f5 t.2.2.2.2.2.2 ∧ (r.1 = 0 → (t.2.2.2.2.1 c).toInt = s ∧ (t.2.2.2.2.2.1 c).toInt = f ∧ (t.2.2.2.2.2.2 c).toInt = v)
section XCL
variable {T : Nat → Int} {n p r j : Nat} {u0 i9 i12 y a b : Int32} {a1 a23 a24 a25 : Nat → Int32}
theorem X7_bad {q : Nat} {s f v : Int} {g : Int32} {c : Int} (hy : y.toInt = (q : Int)) (hq : q ≤ 160) (hf : g.toInt * 1000 = c) (h1 : 1 ≤ g.toInt) (h2 : g.toInt ≤ 6) {k : Nat} : X7 (-c - (q : Int), q) a b k a23 a24 a25 s f v ((0 : Int32), y, g, y, a23, a24, a25) :=
  ⟨XR_bad hy hq hf h1 h2, Sm_r, Sm_r, Sm_r, fun h => absurd h (by show ¬ -c - (q : Int) = 0; omega)⟩
theorem x_rest (hT : TXT T n) (hx : TXX T n i12 a1) (hi : i9.toInt = (r : Int)) (hj : u0.toInt = (j : Int)) (hr : r < 20) (hj2 : j < 16) (hy : y.toInt = (p : Int)) (hp : p ≤ n) :
    X7 (spO T 99999 p) a b (16 * r + j) a23 a24 a25 0 0 (spN T 99999 p).2.2 (F_x3_readRest u0 i9 i12 y a b a1 a23 a24 a25) := by
  have c9 : (99999 : Int32).toInt = 99999 := by decide
  have N := xnum (u0 := 99999) (i14 := a) (i15 := b) hT hx hy hp (by rw [c9]; decide)
  rw [c9] at N
  rw [E_x3_readRest, x_putM hi hj hr hj2]
  rcases N with ⟨m1, m2, m3, m4, m5⟩ | ⟨m1, m2, m3⟩
  · have s := spN_at hT hp m1
    rw [if_neg (by omega)]
    exact ⟨Or.inl ⟨m1, rfl, m3, m4, m5⟩, Sm_u, Sm_u, Sm_u, fun _ => ⟨by show (upd a23 _ 0 _).toInt = 0; rw [upd_s]; exact c0, by show (upd a24 _ 0 _).toInt = 0; rw [upd_s]; exact c0, by show (upd a25 _ _ _).toInt = _; rw [upd_s]; exact m2⟩⟩
  · rw [if_pos (by rw [m2]; decide)]
    exact ⟨Or.inr ⟨m1, rfl, m3⟩, Sm_u, Sm_u, Sm_u, fun h => absurd h (by show ¬ (spN T 99999 p).1 = 0; omega)⟩
theorem x_hund (hT : TXT T n) (hx : TXX T n i12 a1) (hi : i9.toInt = (r : Int)) (hj : u0.toInt = (j : Int)) (hr : r < 20) (hj2 : j < 16) (hy : y.toInt = (p : Int)) (hp : p ≤ n) :
    X7 (spH T p) a b (16 * r + j) a23 a24 a25 (T p - 48) 0 (spN T 100 (p + 2)).2.2 (F_x3_readHundredths u0 i9 i12 y a b a1 a23 a24 a25) := by
  have h160 := hT.1
  have c49 : (49 : Int32).toInt = 49 := by decide
  have c46 : (46 : Int32).toInt = 46 := by decide
  have hs := sg_of hT hx hy
  have c48' := c48
  have c1' := c1
  rw [E_x3_readHundredths]
  unfold spH
  rcases btw (u := F_x3_sign i12 y a1) (a := 48) (b := 49) with ⟨q1, q2, q⟩ | ⟨q1, q⟩
  · have hpn := T_in hT (p := p) (by omega)
    have hy1 := suc_of hy (by omega)
    have hs1 := sg_of hT hx hy1
    rw [q, if_pos y10, if_neg (show ¬ ¬ (48 ≤ T p ∧ T p ≤ 49) by omega)]
    by_cases w : T (p + 1) = 46
    · have hpn1 := T_in hT (p := p + 1) (by omega)
      have hy2 : (y + 1 + 1).toInt = ((p + 2 : Nat) : Int) := suc_of hy1 (by omega)
      rw [xpass1 (by omega), if_neg (fun z => z w)]
      dsimp only
      rw [if_pos y10]
      have c9 : (100 : Int32).toInt = 100 := by decide
      have N := xnum (u0 := 100) (i14 := a) (i15 := b) hT hx hy2 (by omega) (by rw [c9]; decide)
      rw [c9] at N
      rw [x_putM hi hj hr hj2]
      have es : (F_x3_sign i12 y a1 - 48).toInt = T p - 48 := by
        have := toInt_sub (x := F_x3_sign i12 y a1) (y := 48) rfl c48 (by omega) (by omega)
        omega
      rcases N with ⟨m1, m2, m3, m4, m5⟩ | ⟨m1, m2, m3⟩
      · have s := spN_at hT (show p + 2 ≤ n by omega) m1
        rw [if_neg (by omega)]
        exact ⟨Or.inl ⟨m1, rfl, m3, m4, m5⟩, Sm_u, Sm_u, Sm_u, fun _ => ⟨by show (upd a23 _ _ _).toInt = _; rw [upd_s]; exact es, by show (upd a24 _ 0 _).toInt = 0; rw [upd_s]; exact c0, by show (upd a25 _ _ _).toInt = _; rw [upd_s]; exact m2⟩⟩
      · rw [if_pos (by rw [m2]; decide)]
        exact ⟨Or.inr ⟨m1, rfl, m3⟩, Sm_u, Sm_u, Sm_u, fun h => absurd h (by show ¬ (spN T 100 (p + 2)).1 = 0; omega)⟩
    · rw [xpass0 (by omega), if_pos w]
      dsimp only
      rw [if_neg n00]
      exact X7_bad (g := 1) hy1 (by omega) (by decide) (by decide) (by decide)
  · rw [q, if_neg n00, if_pos (show ¬ (48 ≤ T p ∧ T p ≤ 49) by omega)]
    exact X7_bad (g := 1) hy (by omega) (by decide) (by decide) (by decide)
/-- behind a FORM: = and a number -/
theorem x_turnB {k v : Int32} (hT : TXT T n) (hx : TXX T n i12 a1) (hi : i9.toInt = (r : Int)) (hj : u0.toInt = (j : Int)) (hr : r < 20) (hj2 : j < 16) (hy : y.toInt = (p : Int)) (hp : p < n) :
    X7 (if T (p + 1) ≠ 61 then (-1000 - ((p + 1 : Nat) : Int), p + 1) else spO T 79 (p + 2)) a b (16 * r + j) a23 a24 a25 v.toInt k.toInt (spN T 79 (p + 2)).2.2 (f_x3_readTurning_j37 u0 i9 i12 a1 a23 a24 a25 v y a b k) := by
  have h160 := hT.1
  have c61 : (61 : Int32).toInt = 61 := by decide
  have c79 : (79 : Int32).toInt = 79 := by decide
  have hy1 := suc_of hy (by omega)
  have hs1 := sg_of hT hx hy1
  rw [E_x3_readTurning_j37]
  by_cases w : T (p + 1) = 61
  · have hpn := T_in hT (p := p + 1) (by omega)
    have hy2 : (y + 1 + 1).toInt = ((p + 2 : Nat) : Int) := suc_of hy1 (by omega)
    rw [xpass1 (by omega), if_neg (fun z => z w)]
    dsimp only
    rw [if_pos y10, x_putM hi hj hr hj2]
    have N := xnum (u0 := 79) (i14 := a) (i15 := b) hT hx hy2 (by omega) (by rw [c79]; decide)
    rw [c79] at N
    generalize F_x3_readNumber 79 i12 (y + 1 + 1) a b a1 = t at N
    obtain ⟨t1, t2, t3, t4⟩ := t
    dsimp only at N ⊢
    rcases N with ⟨m1, m2, m3, m4, m5⟩ | ⟨m1, m2, m3⟩
    · have s := spN_at hT (show p + 2 ≤ n by omega) m1
      rw [if_neg (show ¬ t1.toInt = -1 by omega)]
      exact ⟨Or.inl ⟨m1, rfl, m3, m4, m5⟩, Sm_u, Sm_u, Sm_u, fun _ => ⟨by show (upd a23 _ _ _).toInt = _; rw [upd_s], by show (upd a24 _ _ _).toInt = _; rw [upd_s], by show (upd a25 _ _ _).toInt = _; rw [upd_s]; exact m2⟩⟩
    · rw [if_pos (by rw [m2]; decide)]
      exact ⟨Or.inr ⟨m1, rfl, m3⟩, Sm_u, Sm_u, Sm_u, fun h => absurd h (by show ¬ (spN T 79 (p + 2)).1 = 0; omega)⟩
  · rw [xpass0 (by omega), if_pos w]
    dsimp only
    rw [if_neg n00]
    exact X7_bad (g := 1) hy1 (by omega) (by decide) (by decide) (by decide)
/-- from the . on -/
theorem x_turnA {v : Int32} {q : Nat} (hT : TXT T n) (hx : TXX T n i12 a1) (hi : i9.toInt = (r : Int)) (hj : u0.toInt = (j : Int)) (hr : r < 20) (hj2 : j < 16) (hy : y.toInt = (q : Int)) (hq : q ≤ n) {t : R7}
    (et : t = if ((F_x3_pass 46 i12 y a b a1).1).toInt ≠ 0 then (if (F_x3_sign i12 (F_x3_pass 46 i12 y a b a1).2.1 a1).toInt = 42 then f_x3_readTurning_j32 u0 i9 i12 a1 a23 a24 a25 v (F_x3_pass 46 i12 y a b a1).2.1 (F_x3_pass 46 i12 y a b a1).2.2.1 (F_x3_pass 46 i12 y a b a1).2.2.2 else (if (F_x3_isBetween (F_x3_sign i12 (F_x3_pass 46 i12 y a b a1).2.1 a1) 48 51).toInt ≠ 0 then f_x3_readTurning_j32 u0 i9 i12 a1 a23 a24 a25 v (F_x3_pass 46 i12 y a b a1).2.1 (F_x3_pass 46 i12 y a b a1).2.2.1 (F_x3_pass 46 i12 y a b a1).2.2.2 else ((0 : Int32), (F_x3_pass 46 i12 y a b a1).2.1, (1 : Int32), (F_x3_pass 46 i12 y a b a1).2.1, a23, a24, a25))) else ((0 : Int32), (F_x3_pass 46 i12 y a b a1).2.1, (F_x3_pass 46 i12 y a b a1).2.2.1, (F_x3_pass 46 i12 y a b a1).2.2.2, a23, a24, a25)) :
    X7 (spW2 T q) a b (16 * r + j) a23 a24 a25 v.toInt (if T (q + 1) = 42 then 4 else T (q + 1) - 48) (spN T 79 (q + 3)).2.2 t := by
  have h160 := hT.1
  have c46 : (46 : Int32).toInt = 46 := by decide
  have c51 : (51 : Int32).toInt = 51 := by decide
  have c48' := c48
  have hs := sg_of hT hx hy
  subst et
  unfold spW2
  by_cases w : T q = 46
  · have hqn := T_in hT (p := q) (by omega)
    have hy1 := suc_of hy (by omega)
    have hs1 := sg_of hT hx hy1
    rw [xpass1 (by omega), if_neg (fun z => z w)]
    dsimp only
    rw [if_pos y10]
    by_cases w2 : T (q + 1) = 42 ∨ (48 ≤ T (q + 1) ∧ T (q + 1) ≤ 51)
    · have hqn1 := T_in hT (p := q + 1) (by omega)
      rw [if_neg (fun z => z w2)]
      by_cases w4 : T (q + 1) = 42
      · rw [if_pos (show (F_x3_sign i12 (y + 1) a1).toInt = 42 by omega), E_x3_readTurning_j32, if_neg (show ¬ (F_x3_sign i12 (y + 1) a1).toInt ≠ 42 by omega), if_pos w4]
        exact x_turnB (k := 4) hT hx hi hj hr hj2 hy1 hqn1
      · rw [if_neg (show ¬ (F_x3_sign i12 (y + 1) a1).toInt = 42 by omega)]
        rcases btw (u := F_x3_sign i12 (y + 1) a1) (a := 48) (b := 51) with ⟨q1, q2, z⟩ | ⟨q1, z⟩
        · have es : (F_x3_sign i12 (y + 1) a1 - 48).toInt = T (q + 1) - 48 := by
            have := toInt_sub (x := F_x3_sign i12 (y + 1) a1) (y := 48) rfl c48 (by omega) (by omega)
            omega
          rw [z, if_pos y10, E_x3_readTurning_j32, if_pos (show (F_x3_sign i12 (y + 1) a1).toInt ≠ 42 by omega), if_neg w4, ← es]
          exact x_turnB hT hx hi hj hr hj2 hy1 hqn1
        · omega
    · rw [if_neg (show ¬ (F_x3_sign i12 (y + 1) a1).toInt = 42 by omega), if_pos w2]
      rcases btw (u := F_x3_sign i12 (y + 1) a1) (a := 48) (b := 51) with ⟨q1, q2, z⟩ | ⟨q1, z⟩
      · omega
      · rw [z, if_neg n00]
        exact X7_bad (g := 1) hy1 (by omega) (by decide) (by decide) (by decide)
  · rw [xpass0 (by omega), if_pos w]
    dsimp only
    rw [if_neg n00]
    exact X7_bad (g := 1) hy (by omega) (by decide) (by decide) (by decide)
theorem x_turn (hT : TXT T n) (hx : TXX T n i12 a1) (hi : i9.toInt = (r : Int)) (hj : u0.toInt = (j : Int)) (hr : r < 20) (hj2 : j < 16) (hy : y.toInt = (p : Int)) (hp : p ≤ n) :
    X7 (spW T p) a b (16 * r + j) a23 a24 a25 (spN T 39 p).2.2 (if T ((spN T 39 p).2.1 + 1) = 42 then 4 else T ((spN T 39 p).2.1 + 1) - 48) (spN T 79 ((spN T 39 p).2.1 + 3)).2.2 (F_x3_readTurning u0 i9 i12 y a b a1 a23 a24 a25) := by
  have c39 : (39 : Int32).toInt = 39 := by decide
  have N := xnum (u0 := 39) (i14 := a) (i15 := b) hT hx hy hp (by rw [c39]; decide)
  rw [c39] at N
  rw [E_x3_readTurning]
  generalize F_x3_readNumber 39 i12 y a b a1 = t at N
  obtain ⟨t1, t2, t3, t4⟩ := t
  dsimp only at N ⊢
  unfold spW
  rcases N with ⟨m1, m2, m3, m4, m5⟩ | ⟨m1, m2, m3⟩
  · have s := spN_at hT hp m1
    rw [seq_y (show (spO T 39 p).1 = 0 from m1), if_neg (show ¬ t1.toInt = -1 by omega), m4, m5, ← m2]
    exact x_turnA hT hx hi hj hr hj2 m3 s.2.1 rfl
  · rw [seq_n (show (spO T 39 p).1 < 0 from m1), if_pos (show t1.toInt = -1 by rw [m2]; decide)]
    exact ⟨Or.inr ⟨m1, rfl, m3⟩, Sm_r, Sm_r, Sm_r, fun h => absurd h (by show ¬ (spN T 39 p).1 = 0; omega)⟩
end XCL
