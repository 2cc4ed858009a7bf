/-! options, on both sides -/
theorem E_x0_placeOf {u0 : Int32} {i30 : Int32} {a43 : Nat → Int32} : F_x0_placeOf u0 i30 a43 = f_x0_placeOf_j1 u0 i30 a43 7 (0 : Int32) := rfl
theorem S_x0_placeOf_j1 {u0 : Int32} {i30 : Int32} {a43 : Nat → Int32} {n_ : Nat} {x_2} : f_x0_placeOf_j1 u0 i30 a43 (n_ + 1) x_2 = if x_2.toInt ≥ i30.toInt then (-1 : Int32) else (if (a43 x_2.toNatClampNeg).toInt ≠ u0.toInt then (f_x0_placeOf_j1 u0 i30 a43 n_) (x_2 + Int32.ofInt 1) else x_2) := rfl
theorem E_x0_isOption {u0 : Int32} {u1 : Int32} {a44 : Nat → Int32} {a45 : Nat → Int32} : F_x0_isOption u0 u1 a44 a45 = f_x0_isOption_j1 u0 u1 a44 a45 5 (0 : Int32) := rfl
theorem S_x0_isOption_j1 {u0 : Int32} {u1 : Int32} {a44 : Nat → Int32} {a45 : Nat → Int32} {n_ : Nat} {x_2} : f_x0_isOption_j1 u0 u1 a44 a45 (n_ + 1) x_2 = if x_2.toInt ≥ (a44 u0.toNatClampNeg).toInt then (0 : Int32) else (if (a45 ((u0 * (4 : Int32)) + x_2).toNatClampNeg).toInt ≠ u1.toInt then (f_x0_isOption_j1 u0 u1 a44 a45 n_) (x_2 + Int32.ofInt 1) else (1 : Int32)) := rfl
theorem E_x0_enter {u0 : Int32} {u1 : Int32} {i30 : Int32} {a43 : Nat → Int32} {a44 : Nat → Int32} {a45 : Nat → Int32} : F_x0_enter u0 u1 i30 a43 a44 a45 = if (F_x0_placeOf u0 i30 a43).toInt ≠ (-1) then (if (a44 (F_x0_placeOf u0 i30 a43).toNatClampNeg).toInt ≥ 4 then ((0 : Int32), i30, a43, a44, a45) else (if (F_x0_isOption (F_x0_placeOf u0 i30 a43) u1 a44 a45).toInt = 0 then ((1 : Int32), i30, a43, (upd a44 (F_x0_placeOf u0 i30 a43).toNatClampNeg ((a44 (F_x0_placeOf u0 i30 a43).toNatClampNeg) + (1 : Int32))), (upd a45 (((F_x0_placeOf u0 i30 a43) * (4 : Int32)) + (a44 (F_x0_placeOf u0 i30 a43).toNatClampNeg)).toNatClampNeg u1)) else ((0 : Int32), i30, a43, a44, a45))) else (if i30.toInt < 6 then (if (a44 i30.toNatClampNeg).toInt ≥ 4 then ((0 : Int32), (i30 + (1 : Int32)), (upd a43 i30.toNatClampNeg u0), a44, a45) else (if (F_x0_isOption i30 u1 a44 a45).toInt = 0 then ((1 : Int32), (i30 + (1 : Int32)), (upd a43 i30.toNatClampNeg u0), (upd a44 i30.toNatClampNeg ((a44 i30.toNatClampNeg) + (1 : Int32))), (upd a45 ((i30 * (4 : Int32)) + (a44 i30.toNatClampNeg)).toNatClampNeg u1)) else ((0 : Int32), (i30 + (1 : Int32)), (upd a43 i30.toNatClampNeg u0), a44, a45))) else ((0 : Int32), i30, a43, a44, a45)) := rfl
theorem E_x11_option {u0 : Int32} {u1 : Int32} {i2 : Int32} {i30 : Int32} {a43 : Nat → Int32} {a44 : Nat → Int32} {a45 : Nat → Int32} : F_x11_option u0 u1 i2 i30 a43 a44 a45 = if (F_x11_isSign u0).toInt = 0 then ((0 : Int32), i30, a43, a44, a45) else (if (F_x10_has u1 i2).toInt = 0 then ((0 : Int32), i30, a43, a44, a45) else (if ((F_x0_enter u0 u1 i30 a43 a44 a45).1).toInt = 0 then ((0 : Int32), (F_x0_enter u0 u1 i30 a43 a44 a45).2.1, (F_x0_enter u0 u1 i30 a43 a44 a45).2.2.1, (F_x0_enter u0 u1 i30 a43 a44 a45).2.2.2.1, (F_x0_enter u0 u1 i30 a43 a44 a45).2.2.2.2) else ((1 : Int32), (F_x0_enter u0 u1 i30 a43 a44 a45).2.1, (F_x0_enter u0 u1 i30 a43 a44 a45).2.2.1, (F_x0_enter u0 u1 i30 a43 a44 a45).2.2.2.1, (F_x0_enter u0 u1 i30 a43 a44 a45).2.2.2.2))) := rfl
theorem E_m12_placeOf {p0 : Int32} {i26 : Int32} {a55 : Nat → Int32} : F_m12_placeOf p0 i26 a55 = f_m12_placeOf_j1 p0 i26 a55 7 (0 : Int32) := rfl
theorem S_m12_placeOf_j1 {p0 : Int32} {i26 : Int32} {a55 : Nat → Int32} {n_ : Nat} {x_2} : f_m12_placeOf_j1 p0 i26 a55 (n_ + 1) x_2 = if x_2.toInt ≥ i26.toInt then x_2 else (if (a55 x_2.toNatClampNeg).toInt = p0.toInt then x_2 else ((f_m12_placeOf_j1 p0 i26 a55 n_) (x_2 + Int32.ofInt 1))) := rfl
theorem E_m12_option {p0 : Int32} {p1 : Int32} {i3 : Int32} {i26 : Int32} {a55 : Nat → Int32} {a56 : Nat → Int32} {a57 : Nat → Int32} : F_m12_option p0 p1 i3 i26 a55 a56 a57 = if (F_m12_lies p0 (0 : Int32) (39 : Int32)).toInt = 0 then ((0 : Int32), i26, a55, a56, a57) else (if (F_m12_isWord p1 i3).toInt ≠ 0 then (if (F_m12_placeOf p0 i26 a55).toInt = 6 then ((0 : Int32), i26, a55, a56, a57) else (if (F_m12_placeOf p0 i26 a55).toInt ≥ i26.toInt then f_m12_option_j27 p0 p1 i26 a55 a56 a57 (F_m12_placeOf p0 i26 a55) 5 (0 : Int32) else (if (a56 (F_m12_placeOf p0 i26 a55).toNatClampNeg).toInt ≠ 4 then f_m12_option_j67 p1 i26 a55 a56 a57 (F_m12_placeOf p0 i26 a55) 5 (0 : Int32) else ((0 : Int32), i26, a55, a56, a57)))) else ((0 : Int32), i26, a55, a56, a57)) := rfl
theorem S_m12_option_j27 {p0 : Int32} {p1 : Int32} {i26 : Int32} {a55 : Nat → Int32} {a56 : Nat → Int32} {a57 : Nat → Int32} {v_16 : Int32} {n_ : Nat} {x_28} : f_m12_option_j27 p0 p1 i26 a55 a56 a57 v_16 (n_ + 1) x_28 = ((1 : Int32), (i26 + (1 : Int32)), (upd a55 v_16.toNatClampNeg p0), (upd (upd a56 v_16.toNatClampNeg (0 : Int32)) v_16.toNatClampNeg (((upd a56 v_16.toNatClampNeg (0 : Int32)) v_16.toNatClampNeg) + (1 : Int32))), (upd a57 (((4 : Int32) * v_16) + ((upd a56 v_16.toNatClampNeg (0 : Int32)) v_16.toNatClampNeg)).toNatClampNeg p1)) := rfl
theorem S_m12_option_j67 {p1 : Int32} {i26 : Int32} {a55 : Nat → Int32} {a56 : Nat → Int32} {a57 : Nat → Int32} {v_16 : Int32} {n_ : Nat} {x_68} : f_m12_option_j67 p1 i26 a55 a56 a57 v_16 (n_ + 1) x_68 = if x_68.toInt ≥ (a56 v_16.toNatClampNeg).toInt then ((1 : Int32), i26, a55, (upd a56 v_16.toNatClampNeg ((a56 v_16.toNatClampNeg) + (1 : Int32))), (upd a57 (((4 : Int32) * v_16) + (a56 v_16.toNatClampNeg)).toNatClampNeg p1)) else (if (a57 (((4 : Int32) * v_16) + x_68).toNatClampNeg).toInt ≠ p1.toInt then (f_m12_option_j67 p1 i26 a55 a56 a57 v_16 n_) (x_68 + Int32.ofInt 1) else ((0 : Int32), i26, a55, a56, a57)) := rfl
theorem E_x11_isSign {u0 : Int32} : F_x11_isSign u0 = if u0.toInt < 0 then (0 : Int32) else (if u0.toInt ≥ 40 then (0 : Int32) else (1 : Int32)) := rfl
theorem o1_ : (Int32.ofInt 1).toInt = 1 := by decide
theorem c4_ : (4 : Int32).toInt = 4 := by decide
def RO (i30 : Int32) (a43 a44 a45 : Nat → Int32) (j26 : Int32) (b55 b56 b57 : Nat → Int32) : Prop :=
  i30 = j26 ∧ (0 ≤ i30.toInt ∧ i30.toInt ≤ 6) ∧ (∀ k : Nat, (k : Int) < i30.toInt → a43 k = b55 k ∧ a44 k = b56 k ∧ (0 ≤ (a44 k).toInt ∧ (a44 k).toInt ≤ 4) ∧ ∀ j : Nat, (j : Int) < (a44 k).toInt → a45 (4 * k + j) = b57 (4 * k + j)) ∧ ∀ k : Nat, i30.toInt ≤ (k : Int) → k < 6 → (a44 k).toInt = 0
theorem RO_0 : RO 0 (fun _ => 0) (fun _ => 0) (fun _ => 0) 0 (fun _ => 0) (fun _ => 0) (fun _ => 0) := by
  have z := c0
  refine ⟨rfl, by decide, fun k hk => ?_, fun k _ _ => z⟩
  omega
theorem upd_n27 {f : Nat → Int32} {c k : Nat} {x : Int32} (h : k ≠ c) : upd f c x k = f k := by unfold upd; rw [if_neg h]
theorem OP_loop {u i30 : Int32} {a43 b55 : Nat → Int32} (he : ∀ k : Nat, (k : Int) < i30.toInt → a43 k = b55 k) (h6 : i30.toInt ≤ 6) : ∀ (n : Nat) (x : Int32) (X : Nat), x.toInt = (X : Int) → (X : Int) ≤ i30.toInt → i30.toInt < (X : Int) + (n : Int) →
    (∃ r : Nat, (r : Int) < i30.toInt ∧ (f_x0_placeOf_j1 u i30 a43 n x).toInt = (r : Int) ∧ f_m12_placeOf_j1 u i30 b55 n x = f_x0_placeOf_j1 u i30 a43 n x) ∨ (f_x0_placeOf_j1 u i30 a43 n x = (-1 : Int32) ∧ (f_m12_placeOf_j1 u i30 b55 n x).toInt = i30.toInt) := by
  intro n
  induction n with
  | zero => intro x X hx h1 h2; exfalso; omega
  | succ n ih =>
    intro x X hx h1 h2
    rw [S_x0_placeOf_j1, S_m12_placeOf_j1, nc hx]
    by_cases w : x.toInt ≥ i30.toInt
    · rw [if_pos w, if_pos w]
      exact Or.inr ⟨rfl, by omega⟩
    · rw [if_neg w, if_neg w, ← he X (by omega)]
      by_cases e : (a43 X).toInt = u.toInt
      · rw [if_neg (show ¬ ((a43 X).toInt ≠ u.toInt) from fun q => q e), if_pos e]
        exact Or.inl ⟨X, by omega, hx, rfl⟩
      · rw [if_pos (show (a43 X).toInt ≠ u.toInt from e), if_neg e]
        have hz : (x + Int32.ofInt 1).toInt = ((X + 1 : Nat) : Int) := by
          have := toInt_add hx o1_ (by omega) (by omega)
          omega
        exact ih _ (X + 1) hz (by omega) (by omega)
theorem o_ix {k x : Int32} {K X : Nat} (hk : k.toInt = (K : Int)) (hx : x.toInt = (X : Int)) (h6 : K < 6) (h4 : X ≤ 4) : (k * (4 : Int32) + x).toNatClampNeg = 4 * K + X ∧ ((4 : Int32) * k + x).toNatClampNeg = 4 * K + X := by
  have e1 := toInt_mul hk c4_ rfl (by omega) (by omega)
  have e2 := toInt_mul c4_ hk rfl (by omega) (by omega)
  have e3 := toInt_add e1 hx (by omega) (by omega)
  have e4 := toInt_add e2 hx (by omega) (by omega)
  exact ⟨nc (by omega), nc (by omega)⟩
theorem OI_loop {k u1 i30 : Int32} {K S : Nat} {a44 a45 b55 b56 b57 : Nat → Int32} (hk : k.toInt = (K : Int)) (h6 : K < 6) (hs : a44 K = b56 K) (hS : (a44 K).toInt = (S : Int)) (h4 : S ≤ 4) (hc : ∀ j : Nat, (j : Int) < (a44 K).toInt → a45 (4 * K + j) = b57 (4 * K + j)) : ∀ (n : Nat) (x : Int32) (X : Nat), x.toInt = (X : Int) → X ≤ S → S < X + n →
    (f_x0_isOption_j1 k u1 a44 a45 n x = (0 : Int32) ∧ f_m12_option_j67 u1 i30 b55 b56 b57 k n x = ((1 : Int32), i30, b55, upd b56 K (b56 K + 1), upd b57 (4 * K + S) u1)) ∨ (f_x0_isOption_j1 k u1 a44 a45 n x = (1 : Int32) ∧ f_m12_option_j67 u1 i30 b55 b56 b57 k n x = ((0 : Int32), i30, b55, b56, b57)) := by
  intro n
  induction n with
  | zero => intro x X hx h1 h2; exfalso; omega
  | succ n ih =>
    intro x X hx h1 h2
    rw [S_x0_isOption_j1, S_m12_option_j67, nc hk, ← hs, (o_ix hk hx h6 (by omega)).1, (o_ix hk hx h6 (by omega)).2, (o_ix hk hS h6 (by omega)).2]
    by_cases w : x.toInt ≥ (a44 K).toInt
    · rw [if_pos w, if_pos w]
      exact Or.inl ⟨rfl, rfl⟩
    · rw [if_neg w, if_neg w, ← hc X (by omega)]
      by_cases e : (a45 (4 * K + X)).toInt = u1.toInt
      · rw [if_neg (show ¬ ((a45 (4 * K + X)).toInt ≠ u1.toInt) from fun q => q e), if_neg (show ¬ ((a45 (4 * K + X)).toInt ≠ u1.toInt) from fun q => q e)]
        exact Or.inr ⟨rfl, rfl⟩
      · rw [if_pos (show (a45 (4 * K + X)).toInt ≠ u1.toInt from e), if_pos (show (a45 (4 * K + X)).toInt ≠ u1.toInt from e)]
        have hz : (x + Int32.ofInt 1).toInt = ((X + 1 : Nat) : Int) := by
          have := toInt_add hx o1_ (by omega) (by omega)
          omega
        have r := ih _ (X + 1) hz (by omega) (by omega)
        rw [hs]
        exact r
theorem RO_put {i30 : Int32} {a43 a44 a45 b55 b56 b57 : Nat → Int32} {K S : Nat} {w : Int32} (h : RO i30 a43 a44 a45 i30 b55 b56 b57) (hK : (K : Int) < i30.toInt) (hS : (a44 K).toInt = (S : Int)) (h4 : S < 4) : RO i30 a43 (upd a44 K (a44 K + 1)) (upd a45 (4 * K + S) w) i30 b55 (upd b56 K (b56 K + 1)) (upd b57 (4 * K + S) w) := by
  obtain ⟨h1, h2, h3, h5⟩ := h
  have e1 : (a44 K + 1).toInt = (S : Int) + 1 := toInt_add hS c1 (by omega) (by omega)
  refine ⟨h1, h2, fun k hk => ?_, fun k hk hk6 => ?_⟩
  · obtain ⟨g1, g2, g3, g4⟩ := h3 k hk
    by_cases e : k = K
    · subst e
      rw [upd_s, upd_s]
      refine ⟨g1, by rw [g2], by omega, fun j hj => ?_⟩
      by_cases ej : j = S
      · subst ej
        rw [upd_s, upd_s]
      · rw [upd_n27 (by omega), upd_n27 (by omega)]
        exact g4 j (by omega)
    · rw [upd_n27 e, upd_n27 e]
      refine ⟨g1, g2, g3, fun j hj => ?_⟩
      rw [upd_n27 (by omega), upd_n27 (by omega)]
      exact g4 j hj
  · rw [upd_n27 (by omega)]
    exact h5 k hk hk6
theorem RO_new {i30 u : Int32} {a43 a44 a45 b55 b56 b57 : Nat → Int32} {I : Nat} (h : RO i30 a43 a44 a45 i30 b55 b56 b57) (hI : i30.toInt = (I : Int)) (h6 : I < 6) : RO (i30 + 1) (upd a43 I u) a44 a45 (i30 + 1) (upd b55 I u) (upd b56 I 0) b57 := by
  obtain ⟨h1, h2, h3, h5⟩ := h
  have e1 : (i30 + 1).toInt = (I : Int) + 1 := toInt_add hI c1 (by omega) (by omega)
  refine ⟨rfl, by omega, fun k hk => ?_, fun k hk hk6 => h5 k (by omega) hk6⟩
  by_cases e : k = I
  · subst e
    have z := h5 k (by omega) h6
    rw [upd_s, upd_s, upd_s]
    exact ⟨rfl, eq_of_toInt (by rw [z]; rfl), by omega, fun j hj => by omega⟩
  · rw [upd_n27 e, upd_n27 e, upd_n27 e]
    exact h3 k (by omega)
def ROT (x m : Int32 × Int32 × (Nat → Int32) × (Nat → Int32) × (Nat → Int32)) : Prop := x.1 = m.1 ∧ RO x.2.1 x.2.2.1 x.2.2.2.1 x.2.2.2.2 m.2.1 m.2.2.1 m.2.2.2.1 m.2.2.2.2
theorem R_option {u0 u1 i2 i30 : Int32} {a43 a44 a45 b55 b56 b57 : Nat → Int32} (h2 : 0 ≤ i2.toInt) (h : RO i30 a43 a44 a45 i30 b55 b56 b57) : ROT (F_x11_option u0 u1 i2 i30 a43 a44 a45) (F_m12_option u0 u1 i2 i30 b55 b56 b57) := by
  have c39 : (39 : Int32).toInt = 39 := by decide
  have no : ROT ((0 : Int32), i30, a43, a44, a45) ((0 : Int32), i30, b55, b56, b57) := ⟨rfl, h⟩
  obtain ⟨-, hb, h3, h5⟩ := id h
  rw [E_x11_option, E_m12_option, E_x11_isSign]
  rcases mlie (u := u0) c0 c39 with ⟨g1, g⟩ | ⟨g1, g⟩
  · rw [g, if_neg n10, if_neg (show ¬ u0.toInt < 0 by omega), if_neg (show ¬ u0.toInt ≥ 40 by omega), if_neg n10]
    rcases xhasW (u := u1) (i3 := i2) with ⟨k1, k⟩ | ⟨k1, k⟩
    · rcases mword (u := u1) (i2 := i2) h2 with ⟨m1, m⟩ | ⟨m1, m⟩
      · rw [k, m, if_neg n10, if_pos y10]
        have op := OP_loop (u := u0) (fun k hk => (h3 k hk).1) hb.2 7 (0 : Int32) 0 c0 (by omega) (by omega)
        have ex : F_x0_placeOf u0 i30 a43 = f_x0_placeOf_j1 u0 i30 a43 7 (0 : Int32) := rfl
        have em : F_m12_placeOf u0 i30 b55 = f_m12_placeOf_j1 u0 i30 b55 7 (0 : Int32) := rfl
        rw [← ex, ← em] at op
        rw [E_x0_enter]
        rcases op with ⟨r, r1, r2, r3⟩ | ⟨r1, r2⟩
        · rw [r3]
          generalize F_x0_placeOf u0 i30 a43 = P at r2
          obtain ⟨q1, q2, q3, q4⟩ := h3 r r1
          obtain ⟨S, hS⟩ : ∃ S : Nat, (a44 r).toInt = (S : Int) := ⟨(a44 r).toInt.toNat, by omega⟩
          rw [nc r2, if_pos (show P.toInt ≠ -1 by omega), if_neg (show ¬ P.toInt = 6 by omega), if_neg (show ¬ P.toInt ≥ i30.toInt by omega), ← q2]
          by_cases w : (a44 r).toInt = 4
          · rw [if_pos (show (a44 r).toInt ≥ 4 by omega), if_neg (show ¬ ((a44 r).toInt ≠ 4) from fun q => q w)]
            exact no
          · rw [if_neg (show ¬ (a44 r).toInt ≥ 4 by omega), if_pos (show (a44 r).toInt ≠ 4 from w), (o_ix r2 hS (by omega) (by omega)).1]
            have oi := OI_loop (u1 := u1) (i30 := i30) (b55 := b55) (b57 := b57) r2 (by omega) q2 hS (by omega) q4 5 (0 : Int32) 0 c0 (by omega) (by omega)
            have ei : F_x0_isOption P u1 a44 a45 = f_x0_isOption_j1 P u1 a44 a45 5 (0 : Int32) := rfl
            rw [← ei] at oi
            rcases oi with ⟨o1, o2⟩ | ⟨o1, o2⟩
            · rw [o1, o2, if_pos c0]
              exact ⟨rfl, RO_put h r1 hS (by omega)⟩
            · rw [o1, o2, if_neg n10]
              exact no
        · rw [r1]
          generalize F_m12_placeOf u0 i30 b55 = Q at r2
          rw [if_neg (show ¬ ((-1 : Int32).toInt ≠ -1) from fun q => q (by decide))]
          obtain ⟨I, hI⟩ : ∃ I : Nat, i30.toInt = (I : Int) := ⟨i30.toInt.toNat, by omega⟩
          by_cases w : i30.toInt = 6
          · rw [if_neg (show ¬ i30.toInt < 6 by omega), if_pos (show Q.toInt = 6 by omega)]
            exact no
          · rw [if_pos (show i30.toInt < 6 by omega), if_neg (show ¬ Q.toInt = 6 by omega), if_pos (show Q.toInt ≥ i30.toInt by omega)]
            have z := h5 I (by omega) (by omega)
            have hQ : Q.toInt = (I : Int) := by omega
            have ei : F_x0_isOption i30 u1 a44 a45 = (0 : Int32) := by
              rw [E_x0_isOption, show (5 : Nat) = 4 + 1 from rfl, S_x0_isOption_j1, nc hI, if_pos (by rw [z]; exact Int.le_refl _)]
            rw [show (5 : Nat) = 4 + 1 from rfl, S_m12_option_j27, ei, nc hI, nc hQ, if_neg (show ¬ (a44 I).toInt ≥ 4 by omega), if_pos c0, upd_s, (o_ix hI (show (a44 I).toInt = ((0 : Nat) : Int) from z) (by omega) (by omega)).1, (o_ix hQ (show (0 : Int32).toInt = ((0 : Nat) : Int) from rfl) (by omega) (by omega)).2]
            have hn := RO_new (u := u0) h hI (by omega)
            have hp := RO_put (w := u1) hn (K := I) (S := 0) (by have := toInt_add hI c1 (by omega) (by omega); omega) z (by omega)
            rw [upd_s] at hp
            exact ⟨rfl, hp⟩
      · exact absurd k1 m1
    · rcases mword (u := u1) (i2 := i2) h2 with ⟨m1, m⟩ | ⟨m1, m⟩
      · exact absurd m1 k1
      · rw [k, m, if_pos c0, if_neg n00]
        exact no
  · rw [g, if_pos c0]
    by_cases w : u0.toInt < 0
    · rw [if_pos w, if_pos c0]
      exact no
    · rw [if_neg w, if_pos (show u0.toInt ≥ 40 by omega), if_pos c0]
      exact no
