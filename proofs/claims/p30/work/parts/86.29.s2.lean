/-! what is FIXED, on both sides -/
theorem fo_loop {v i7 : Int32} {a34 a35 : Nat → Int32} (h7 : i7.toInt ≤ 200) : ∀ (n : Nat) (x : Int32) (X : Nat), x.toInt = (X : Int) → (X : Int) ≤ i7.toInt → i7.toInt < (X : Int) + (n : Int) → (∀ q : Nat, q < X → (a34 q).toInt = v.toInt → (a35 q).toInt ≠ 2) →
    ((f_m12_fixedOf_j1 v i7 a34 a35 n x).toInt = -1 ∧ ∀ q : Nat, (q : Int) < i7.toInt → (a34 q).toInt = v.toInt → (a35 q).toInt ≠ 2) ∨ (∃ r : Nat, (r : Int) < i7.toInt ∧ (f_m12_fixedOf_j1 v i7 a34 a35 n x).toInt = (r : Int) ∧ (a34 r).toInt = v.toInt ∧ (a35 r).toInt = 2) := by
  intro n
  induction n with
  | zero => intro x X hx h1 h2; exfalso; omega
  | succ n ih =>
    intro x X hx h1 h2 hq
    rw [S_m12_fixedOf_j1, nc hx]
    by_cases w : x.toInt ≥ i7.toInt
    · rw [if_pos w]
      exact Or.inl ⟨sm1, fun q hq1 => hq q (by omega)⟩
    · rw [if_neg w]
      have hz : (x + Int32.ofInt 1).toInt = ((X + 1 : Nat) : Int) := by
        have := toInt_add hx co1 (by omega) (by omega)
        omega
      by_cases e : (a34 X).toInt = v.toInt
      · rw [if_neg (show ¬ ((a34 X).toInt ≠ v.toInt) from fun q => q e)]
        by_cases e2 : (a35 X).toInt = 2
        · rw [if_neg (show ¬ ((a35 X).toInt ≠ 2) from fun q => q e2)]
          exact Or.inr ⟨X, by omega, hx, e, e2⟩
        · rw [if_pos (show (a35 X).toInt ≠ 2 from e2)]
          refine ih _ (X + 1) hz (by omega) (by omega) (fun q hq1 hq2 => ?_)
          by_cases eq : q = X
          · subst eq; exact e2
          · exact hq q (by omega) hq2
      · rw [if_pos (show (a34 X).toInt ≠ v.toInt from e)]
        refine ih _ (X + 1) hz (by omega) (by omega) (fun q hq1 hq2 => ?_)
        by_cases eq : q = X
        · subst eq; exact absurd hq2 e
        · exact hq q (by omega) hq2
/-- the reference's search finds what the class has noted -/
theorem fo_of {v i10 : Int32} {a29 b34 b35 : Nat → Int32} {V : Nat} (hv : v.toInt = (V : Int)) (hV : V < 60) (h10 : 0 ≤ i10.toInt ∧ i10.toInt ≤ 200) (h : FXD i10 a29 b34 b35) : F_m12_fixedOf v i10 b34 b35 = a29 V := by
  have L := fo_loop (v := v) (a34 := b34) (a35 := b35) h10.2 201 (0 : Int32) 0 c0 (by omega) (by omega) (fun q hq => by omega)
  have e : F_m12_fixedOf v i10 b34 b35 = f_m12_fixedOf_j1 v i10 b34 b35 201 (0 : Int32) := rfl
  rw [← e] at L
  generalize F_m12_fixedOf v i10 b34 b35 = z at L
  refine eq_of_toInt ?_
  rcases L with ⟨l1, l2⟩ | ⟨r, l1, l2, l3, l4⟩
  · rcases h V hV with ⟨g1, g2⟩ | ⟨q, g1, g2, g3, g4, g5⟩
    · omega
    · exact absurd g4 (l2 q g1 (by omega))
  · rcases h V hV with ⟨g1, g2⟩ | ⟨q, g1, g2, g3, g4, g5⟩
    · exact absurd l4 (g2 r l1 (by omega))
    · have := g5 r l1 (by omega) l4
      omega
theorem R_fixed {u0 i3 i10 : Int32} {a29 b34 b35 b43 : Nat → Int32} {og : Nat → Nat → Int32} (h3 : 0 ≤ i3.toInt ∧ i3.toInt ≤ 60) (h10 : 0 ≤ i10.toInt ∧ i10.toInt ≤ 200) (hS : RNS i3 i10 og b34 b35 b43) (h : FXD i10 a29 b34 b35) : F_x11_fixed u0 a29 = F_m12_fixed u0 i3 i10 b34 b35 := by
  rw [E_x11_fixed, E_x8_fixedNumber, E_m12_fixed]
  rcases mver (u := u0) (i2 := i3) h3.1 with ⟨k1, k⟩ | ⟨k1, k⟩
  · obtain ⟨V, hV⟩ : ∃ V : Nat, u0.toInt = (V : Int) := ⟨u0.toInt.toNat, by omega⟩
    rw [k, if_neg n10, if_neg (show ¬ u0.toInt < 0 by omega), if_neg (show ¬ u0.toInt ≥ 60 by omega), fo_of hV (by omega) h10 h, nc hV]
  · rw [k, if_pos c0]
    by_cases w : u0.toInt < 0
    · rw [if_pos w]
    · rw [if_neg w]
      by_cases w2 : u0.toInt ≥ 60
      · rw [if_pos w2]
      · rw [if_neg w2]
        obtain ⟨V, hV⟩ : ∃ V : Nat, u0.toInt = (V : Int) := ⟨u0.toInt.toNat, by omega⟩
        rw [nc hV]
        rcases h V (by omega) with ⟨g1, -⟩ | ⟨r, g1, g2, g3, g4, -⟩
        · exact eq_of_toInt (by rw [g1]; rfl)
        · have := (hS.1 r g1).2.2.2.1
          omega
theorem fn_of {v : Int32} {a29 : Nat → Int32} {V : Nat} (hv : v.toInt = (V : Int)) (hV : V < 60) : F_x8_fixedNumber v a29 = a29 V := by
  rw [E_x8_fixedNumber, if_neg (show ¬ v.toInt < 0 by omega), if_neg (show ¬ v.toInt ≥ 60 by omega), nc hv]
theorem ft_loop {u d : Int32} {N : Nat} {a30 a31 a32 b51 b52 b53 : Nat → Int32} (hN : N ≤ 1024) (h : ∀ t : Nat, t < N → a30 t = b51 t ∧ a31 t = b53 t ∧ a32 t = b52 t) : ∀ (m f g : Nat) (x : Int32), x.toInt = (m : Int) - 1 → m ≤ N → m < f → m < g → f_x8_fixedThen_j2 u d a30 a31 a32 f x = f_m12_fixedAt_j2 u d b51 b52 b53 g x := by
  intro m
  induction m with
  | zero =>
    intro f g x hx _ hf hg
    obtain ⟨f, rfl⟩ : ∃ w, f = w + 1 := ⟨f - 1, by omega⟩
    obtain ⟨g, rfl⟩ : ∃ w, g = w + 1 := ⟨g - 1, by omega⟩
    rw [S_x8_fixedThen_j2, S_m12_fixedAt_j2, if_pos (show x.toInt < 0 by omega), if_pos (show x.toInt < 0 by omega)]
  | succ m ih =>
    intro f g x hx hm hf hg
    obtain ⟨f, rfl⟩ : ∃ w, f = w + 1 := ⟨f - 1, by omega⟩
    obtain ⟨g, rfl⟩ : ∃ w, g = w + 1 := ⟨g - 1, by omega⟩
    have hx2 : x.toInt = (m : Int) := by omega
    have hz : (x + Int32.ofInt (-1)).toInt = (m : Int) - 1 := by
      have := toInt_add hx2 scm1 (by omega) (by omega)
      omega
    have IH := ih f g (x + Int32.ofInt (-1)) hz (by omega) (by omega) (by omega)
    obtain ⟨q1, q2, q3⟩ := h m (by omega)
    rw [S_x8_fixedThen_j2, S_m12_fixedAt_j2, if_neg (show ¬ x.toInt < 0 by omega), if_neg (show ¬ x.toInt < 0 by omega), nc hx2, q1, q2, q3, IH]
theorem ft_of {u d i10 i11 j18 : Int32} {a30 a31 a32 b51 b52 b53 : Nat → Int32} (h : TEL i10 i11 j18 a30 a31 a32 b51 b52 b53) : F_x8_fixedThen u d i11 a30 a31 a32 = F_m12_fixedAt u d j18 b51 b52 b53 := by
  obtain ⟨h1, h2, h3⟩ := h
  subst h1
  rw [E_x8_fixedThen, E_m12_fixedAt]
  have e1 : (i11 - (1 : Int32)).toInt = ((i11.toInt.toNat : Nat) : Int) - 1 := by
    have := toInt_sub (x := i11) rfl c1 (by omega) (by omega)
    omega
  exact ft_loop (N := i11.toInt.toNat) (by omega) (fun t ht => by obtain ⟨a, b, c, -⟩ := h3 t (by omega); exact ⟨a, b, c⟩) i11.toInt.toNat 1025 4001 _ e1 (Nat.le_refl _) (by omega) (by omega)
/-- nothing is told of a verse that isn't there -/
def TLV (i3 i11 : Int32) (a30 : Nat → Int32) : Prop := ∀ t : Nat, (t : Int) < i11.toInt → 0 ≤ (a30 t).toInt ∧ (a30 t).toInt < i3.toInt
theorem ft_none {u d : Int32} {N : Nat} {a30 a31 a32 : Nat → Int32} (hN : N ≤ 1024) (h : ∀ t : Nat, t < N → (a30 t).toInt ≠ u.toInt) : ∀ (m f : Nat) (x : Int32), x.toInt = (m : Int) - 1 → m ≤ N → m < f → f_x8_fixedThen_j2 u d a30 a31 a32 f x = (-1 : Int32) := by
  intro m
  induction m with
  | zero =>
    intro f x hx _ hf
    obtain ⟨f, rfl⟩ : ∃ w, f = w + 1 := ⟨f - 1, by omega⟩
    rw [S_x8_fixedThen_j2, if_pos (show x.toInt < 0 by omega)]
  | succ m ih =>
    intro f x hx hm hf
    obtain ⟨f, rfl⟩ : ∃ w, f = w + 1 := ⟨f - 1, by omega⟩
    have hx2 : x.toInt = (m : Int) := by omega
    have hz : (x + Int32.ofInt (-1)).toInt = (m : Int) - 1 := by
      have := toInt_add hx2 scm1 (by omega) (by omega)
      omega
    rw [S_x8_fixedThen_j2, if_neg (show ¬ x.toInt < 0 by omega), nc hx2, if_pos (h m (by omega))]
    exact ih f _ hz (by omega) (by omega)
theorem R_fixedOn {u0 u1 i1 i3 i10 i11 j18 : Int32} {a30 a31 a32 b51 b52 b53 : Nat → Int32} (h3 : 0 ≤ i3.toInt ∧ i3.toInt ≤ 60) (h : TEL i10 i11 j18 a30 a31 a32 b51 b52 b53) (hV : TLV i3 i11 a30) : F_x11_fixedOn u0 u1 i1 i11 a30 a31 a32 = F_m12_fixedOn u0 u1 i1 i3 j18 b51 b52 b53 := by
  rw [E_x11_fixedOn, E_m12_fixedOn, E_x11_isPastDay, ← ft_of h]
  rcases mlie (u := u1) (a := 0) (b := i1) c0 rfl with ⟨g1, g⟩ | ⟨g1, g⟩
  · rw [g, if_neg n10, if_neg (show ¬ u1.toInt < 0 by omega), if_neg (show ¬ u1.toInt > i1.toInt by omega), if_neg n10]
    rcases mver (u := u0) (i2 := i3) h3.1 with ⟨k1, k⟩ | ⟨k1, k⟩
    · rw [k, if_neg n10]
    · rw [k, if_pos c0, E_x8_fixedThen]
      obtain ⟨-, h2, -⟩ := h
      have e1 : (i11 - (1 : Int32)).toInt = ((i11.toInt.toNat : Nat) : Int) - 1 := by
        have := toInt_sub (x := i11) rfl c1 (by omega) (by omega)
        omega
      exact ft_none (N := i11.toInt.toNat) (by omega) (fun t ht => by have := hV t (by omega); omega) i11.toInt.toNat 1025 _ e1 (Nat.le_refl _) (by omega)
  · rw [g, if_pos c0]
    have e : (if (if u1.toInt < 0 then (0 : Int32) else if u1.toInt > i1.toInt then (0 : Int32) else (1 : Int32)).toInt = 0 then (-1 : Int32) else F_x8_fixedThen u0 u1 i11 a30 a31 a32) = (-1 : Int32) := by
      by_cases w : u1.toInt < 0
      · rw [if_pos w, if_pos c0]
      · rw [if_neg w, if_pos (show u1.toInt > i1.toInt by omega), if_pos c0]
    rw [e]
    by_cases z : (F_m12_isVerse u0 i3).toInt = 0
    · rw [if_pos z]
    · rw [if_neg z]
