/-! CLOSE, on both sides -/
theorem has_b {p q : Int32} {s : Nat} (hq : q.toInt = (s : Int)) (hs : s < 32) : (bitI p s = true ∧ F_m12_has p q = 1) ∨ (bitI p s = false ∧ F_m12_has p q = 0) := by
  have o := qI_one (x := p) (y := q) (by omega) (by omega)
  rw [show q.toInt.toNat = s by omega] at o
  rw [E_m12_has]
  cases h : bitI p s with
  | false =>
    right
    rw [if_pos (fun z => by rw [o.mp z] at h; cases h)]
    exact ⟨rfl, rfl⟩
  | true =>
    left
    rw [if_neg (fun z => z (o.mpr h))]
    exact ⟨rfl, rfl⟩
section CLOSEM
variable {p0 i1 i6 i7 i9 i10 j18 : Int32} {b2 b8 b10 b11 b12 b15 b16 b17 b18 b19 b20 b21 b34 b35 b43 b44 b45 b46 b47 b48 b49 b50 b51 b52 b53 : Nat → Int32} {z9 z11 z12 : Int32}
/-- behind the count -/
def CLE2 (p0 i1 i6 i7 i9 i10 j18 : Int32) (b2 b8 b10 b11 b12 b15 b16 b17 b18 b19 b20 b21 b34 b35 b43 b44 b45 b46 b47 b48 b49 b50 b51 b52 b53 : Nat → Int32) (z9 z11 z12 n y : Int32) :=
  if n.toInt ≠ 0 then (if ((100 : Int32) * y).toInt < ((F_m12_neededAt z9 z12 i1 i6 i9 b2 b8 b15 b16 b17 b18 b19 b20 b21) * n).toInt then f_m12_close_j28 p0 i1 i6 i7 i9 i10 j18 b2 b8 b10 b11 b12 b15 b16 b17 b18 b19 b20 b34 b35 b43 b44 b45 b46 b47 b48 b49 b50 b51 b52 b53 z9 z11 z12 n y (F_m12_neededAt z9 z12 i1 i6 i9 b2 b8 b15 b16 b17 b18 b19 b20 b21) (0 : Int32) else (f_m12_close_j28 p0 i1 i6 i7 i9 i10 j18 b2 b8 b10 b11 b12 b15 b16 b17 b18 b19 b20 b34 b35 b43 b44 b45 b46 b47 b48 b49 b50 b51 b52 b53 z9 z11 z12 n y (F_m12_neededAt z9 z12 i1 i6 i9 b2 b8 b15 b16 b17 b18 b19 b20 b21) (1 : Int32))) else ((-1 : Int32), j18, b35, b43, b44, b45, b46, b47, b48, b51, b52, b53)
theorem cl_count {V : Int32} (h7 : i7.toInt ≤ 24) (hV : ∀ (S : Int32) (s : Nat), S.toInt = (s : Int) → (s : Int) < i7.toInt → (bitI V s = true ↔ (F_m12_isOfStage S z9 z12 i6 b2 b8 b10 b11 b12).toInt ≠ 0)) : ∀ (m f X N Y : Nat) (n y x : Int32), x.toInt = (X : Int) → i7.toInt = (X : Int) + m → m < f → n.toInt = (N : Int) → y.toInt = (Y : Int) → N ≤ X → Y ≤ X →
    ∃ n' y' : Int32, f_m12_close_j13 p0 i1 i6 i7 i9 i10 j18 b2 b8 b10 b11 b12 b15 b16 b17 b18 b19 b20 b21 b34 b35 b43 b44 b45 b46 b47 b48 b49 b50 b51 b52 b53 z9 z11 z12 f n y x = CLE2 p0 i1 i6 i7 i9 i10 j18 b2 b8 b10 b11 b12 b15 b16 b17 b18 b19 b20 b21 b34 b35 b43 b44 b45 b46 b47 b48 b49 b50 b51 b52 b53 z9 z11 z12 n' y' ∧ n'.toInt = ((N + cr (bitI V) X m : Nat) : Int) ∧ y'.toInt = ((Y + cr (fun s => bitI (b50 z11.toNatClampNeg) s && bitI V s) X m : Nat) : Int) := by
  intro m
  induction m with
  | zero =>
    intro f X N Y n y x hx hi hf hn hy h1 h2
    obtain ⟨f, rfl⟩ : ∃ w, f = w + 1 := ⟨f - 1, by omega⟩
    rw [S_m12_close_j13, if_pos (show x.toInt ≥ i7.toInt by omega)]
    exact ⟨n, y, rfl, by show n.toInt = ((N + 0 : Nat) : Int); omega, by show y.toInt = ((Y + 0 : Nat) : Int); omega⟩
  | succ m ih =>
    intro f X N Y n y x hx hi hf hn hy h1 h2
    obtain ⟨f, rfl⟩ : ∃ w, f = w + 1 := ⟨f - 1, by omega⟩
    have hx1 : (x + Int32.ofInt 1).toInt = ((X + 1 : Nat) : Int) := by
      have := toInt_add hx co1 (by omega) (by omega)
      omega
    have hn1 : (n + Int32.ofInt 1).toInt = ((N + 1 : Nat) : Int) := by
      have := toInt_add hn co1 (by omega) (by omega)
      omega
    have hy1 : (y + (1 : Int32)).toInt = ((Y + 1 : Nat) : Int) := by
      have := toInt_add hy c1 (by omega) (by omega)
      omega
    have hy0 : (y + (0 : Int32)).toInt = (Y : Int) := by
      have := toInt_add hy c0 (by omega) (by omega)
      omega
    have q := hV x X hx (by omega)
    have ec : ∀ g : Nat → Bool, cr g X (m + 1) = (g X).toNat + cr g (X + 1) m := fun _ => rfl
    rw [S_m12_close_j13, if_neg (show ¬ x.toInt ≥ i7.toInt by omega), ec, ec]
    by_cases w : (F_m12_isOfStage x z9 z12 i6 b2 b8 b10 b11 b12).toInt = 0
    · have z : bitI V X = false := by
        cases h : bitI V X with
        | false => rfl
        | true => exact absurd w (q.mp h)
      rw [if_neg (fun z => z w), z, Bool.and_false]
      obtain ⟨n', y', e1, e2, e3⟩ := ih f (X + 1) N Y n y _ hx1 (by omega) (by omega) hn hy (by omega) (by omega)
      exact ⟨n', y', e1, by rw [e2]; show ((N + _ : Nat) : Int) = ((N + (0 + _) : Nat) : Int); omega, by rw [e3]; show ((Y + _ : Nat) : Int) = ((Y + (0 + _) : Nat) : Int); omega⟩
    · rw [if_pos w, q.mpr w, Bool.and_true]
      rcases has_b (p := b50 z11.toNatClampNeg) hx (by omega) with ⟨g1, g2⟩ | ⟨g1, g2⟩
      · rw [g2, if_neg n10, g1]
        obtain ⟨n', y', e1, e2, e3⟩ := ih f (X + 1) (N + 1) (Y + 1) _ _ _ hx1 (by omega) (by omega) hn1 hy1 (by omega) (by omega)
        exact ⟨n', y', e1, by rw [e2]; show ((N + 1 + _ : Nat) : Int) = ((N + (1 + _) : Nat) : Int); omega, by rw [e3]; show ((Y + 1 + _ : Nat) : Int) = ((Y + (1 + _) : Nat) : Int); omega⟩
      · rw [g2, if_pos c0, g1]
        obtain ⟨n', y', e1, e2, e3⟩ := ih f (X + 1) (N + 1) Y _ _ _ hx1 (by omega) (by omega) hn1 hy0 (by omega) (by omega)
        exact ⟨n', y', e1, by rw [e2]; show ((N + 1 + _ : Nat) : Int) = ((N + (1 + _) : Nat) : Int); omega, by rw [e3]; show ((Y + _ : Nat) : Int) = ((Y + (0 + _) : Nat) : Int); omega⟩
/-- behind what is kept of the votes -/
def CLX (p0 i1 j18 : Int32) (b35 b43 b51 b52 b53 : Nat → Int32) (z9 z12 y29 v31 : Int32) (c44 c45 c46 c47 c48 : Nat → Int32) :=
  if y29.toInt ≠ 0 then (if z9.toInt ≠ 0 then f_m12_close_j49 p0 i1 j18 b35 b43 b51 b52 b53 z12 v31 c44 c45 c46 c47 c48 (2 : Int32) p0 else (f_m12_close_j49 p0 i1 j18 b35 b43 b51 b52 b53 z12 v31 c44 c45 c46 c47 c48 (1 : Int32) p0)) else (f_m12_close_j49 p0 i1 j18 b35 b43 b51 b52 b53 z12 v31 c44 c45 c46 c47 c48 (3 : Int32) p0)
theorem cl_keep {V y29 v31 : Int32} {c44 c45 c46 : Nat → Int32} (h7 : i7.toInt ≤ 24) (hV : ∀ (S : Int32) (s : Nat), S.toInt = (s : Int) → (s : Int) < i7.toInt → (bitI V s = true ↔ (F_m12_isOfStage S z9 z12 i6 b2 b8 b10 b11 b12).toInt ≠ 0)) : ∀ (m f X : Nat) (x : Int32) (A B : Nat → Int32), x.toInt = (X : Int) → i7.toInt = (X : Int) + m → m < f →
    ∃ A' B' : Nat → Int32, f_m12_close_j42 p0 i1 i6 i7 j18 b2 b8 b10 b11 b12 b35 b43 b49 b50 b51 b52 b53 z9 z11 z12 y29 v31 c44 c45 c46 f x A B = CLX p0 i1 j18 b35 b43 b51 b52 b53 z9 z12 y29 v31 c44 c45 c46 A' B' ∧ (∀ j, j ≠ z11.toNatClampNeg → A' j = A j ∧ B' j = B j) ∧ ∀ s : Nat, s < 24 → (bitI (A' z11.toNatClampNeg) s = true ↔ bitI (A z11.toNatClampNeg) s = true ∨ (X ≤ s ∧ (s : Int) < i7.toInt ∧ bitI V s = true ∧ bitI (b49 z11.toNatClampNeg) s = true)) ∧ (bitI (B' z11.toNatClampNeg) s = true ↔ bitI (B z11.toNatClampNeg) s = true ∨ (X ≤ s ∧ (s : Int) < i7.toInt ∧ bitI V s = true ∧ bitI (b49 z11.toNatClampNeg) s = true ∧ bitI (b50 z11.toNatClampNeg) s = true)) := by
  intro m
  induction m with
  | zero =>
    intro f X x A B hx hi hf
    obtain ⟨f, rfl⟩ : ∃ w, f = w + 1 := ⟨f - 1, by omega⟩
    rw [S_m12_close_j42, if_pos (show x.toInt ≥ i7.toInt by omega)]
    exact ⟨A, B, rfl, fun j _ => ⟨rfl, rfl⟩, fun s hs => ⟨⟨fun h => Or.inl h, fun h => h.elim id (fun q => by omega)⟩, ⟨fun h => Or.inl h, fun h => h.elim id (fun q => by omega)⟩⟩⟩
  | succ m ih =>
    intro f X x A B hx hi hf
    obtain ⟨f, rfl⟩ : ∃ w, f = w + 1 := ⟨f - 1, by omega⟩
    have hx1 : (x + Int32.ofInt 1).toInt = ((X + 1 : Nat) : Int) := by
      have := toInt_add hx co1 (by omega) (by omega)
      omega
    have q := hV x X hx (by omega)
    generalize hk : z11.toNatClampNeg = k at *
    rw [S_m12_close_j42, if_neg (show ¬ x.toInt ≥ i7.toInt by omega), hk]
    have skip : ∀ (A1 B1 : Nat → Int32), ((∀ j, j ≠ k → A1 j = A j ∧ B1 j = B j) ∧ ∀ s : Nat, s < 24 → (bitI (A1 k) s = true ↔ bitI (A k) s = true ∨ (s = X ∧ bitI V s = true ∧ bitI (b49 k) s = true)) ∧ (bitI (B1 k) s = true ↔ bitI (B k) s = true ∨ (s = X ∧ bitI V s = true ∧ bitI (b49 k) s = true ∧ bitI (b50 k) s = true))) →
        ∃ A' B' : Nat → Int32, f_m12_close_j42 p0 i1 i6 i7 j18 b2 b8 b10 b11 b12 b35 b43 b49 b50 b51 b52 b53 z9 z11 z12 y29 v31 c44 c45 c46 f (x + Int32.ofInt 1) A1 B1 = CLX p0 i1 j18 b35 b43 b51 b52 b53 z9 z12 y29 v31 c44 c45 c46 A' B' ∧ (∀ j, j ≠ k → A' j = A j ∧ B' j = B j) ∧ ∀ s : Nat, s < 24 → (bitI (A' k) s = true ↔ bitI (A k) s = true ∨ (X ≤ s ∧ (s : Int) < i7.toInt ∧ bitI V s = true ∧ bitI (b49 k) s = true)) ∧ (bitI (B' k) s = true ↔ bitI (B k) s = true ∨ (X ≤ s ∧ (s : Int) < i7.toInt ∧ bitI V s = true ∧ bitI (b49 k) s = true ∧ bitI (b50 k) s = true)) := by
      intro A1 B1 h
      obtain ⟨A', B', e1, e2, e3⟩ := ih f (X + 1) (x + Int32.ofInt 1) A1 B1 hx1 (by omega) (by omega)
      refine ⟨A', B', e1, fun j hj => ?_, fun s hs => ?_⟩
      · obtain ⟨q1, q2⟩ := e2 j hj
        obtain ⟨q3, q4⟩ := h.1 j hj
        exact ⟨q1.trans q3, q2.trans q4⟩
      · obtain ⟨q1, q2⟩ := e3 s hs
        obtain ⟨q3, q4⟩ := h.2 s hs
        rw [q1, q2, q3, q4]
        constructor
        · constructor
          · rintro ((g | ⟨g1, g2, g3⟩) | ⟨g1, g2, g3⟩)
            · exact Or.inl g
            · exact Or.inr ⟨by omega, by omega, g2, g3⟩
            · exact Or.inr ⟨by omega, g2, g3⟩
          · rintro (g | ⟨g1, g2, g3⟩)
            · exact Or.inl (Or.inl g)
            · by_cases e : s = X
              · exact Or.inl (Or.inr ⟨e, g3⟩)
              · exact Or.inr ⟨by omega, g2, g3⟩
        · constructor
          · rintro ((g | ⟨g1, g2, g3⟩) | ⟨g1, g2, g3⟩)
            · exact Or.inl g
            · exact Or.inr ⟨by omega, by omega, g2, g3⟩
            · exact Or.inr ⟨by omega, g2, g3⟩
          · rintro (g | ⟨g1, g2, g3⟩)
            · exact Or.inl (Or.inl g)
            · by_cases e : s = X
              · exact Or.inl (Or.inr ⟨e, g3⟩)
              · exact Or.inr ⟨by omega, g2, g3⟩
    by_cases w : (F_m12_isOfStage x z9 z12 i6 b2 b8 b10 b11 b12).toInt = 0
    · rw [if_pos w]
      have z : bitI V X = false := by
        cases h : bitI V X with
        | false => rfl
        | true => exact absurd w (q.mp h)
      refine skip A B ⟨fun j _ => ⟨rfl, rfl⟩, fun s _ => ⟨⟨fun h => Or.inl h, fun h => h.elim id (fun g => ?_)⟩, ⟨fun h => Or.inl h, fun h => h.elim id (fun g => ?_)⟩⟩⟩
      · have g2 := g.2.1; rw [g.1, z] at g2; cases g2
      · have g2 := g.2.1; rw [g.1, z] at g2; cases g2
    · rw [if_neg w]
      have zV := q.mpr w
      rcases has_b (p := b49 k) hx (by omega) with ⟨g1, g2⟩ | ⟨g1, g2⟩
      · rw [g2, if_pos y10]
        rcases has_b (p := b50 k) hx (by omega) with ⟨g3, g4⟩ | ⟨g3, g4⟩
        · rw [g4, if_neg n10]
          refine skip _ _ ⟨fun j hj => ⟨upd_n hj, upd_n hj⟩, fun s hs => ?_⟩
          rw [upd_s, upd_s, qI_or, qI_or, Bool.or_eq_true, Bool.or_eq_true, qI_sh (by omega) (by omega), decide_eq_true_eq, show x.toInt.toNat = X by omega]
          constructor
          · constructor
            · rintro (g | g)
              · exact Or.inl g
              · subst g; exact Or.inr ⟨rfl, zV, g1⟩
            · rintro (g | g)
              · exact Or.inl g
              · exact Or.inr g.1.symm
          · constructor
            · rintro (g | g)
              · exact Or.inl g
              · subst g; exact Or.inr ⟨rfl, zV, g1, g3⟩
            · rintro (g | g)
              · exact Or.inl g
              · exact Or.inr g.1.symm
        · rw [g4, if_pos c0]
          refine skip _ _ ⟨fun j hj => ⟨upd_n hj, upd_n hj⟩, fun s hs => ?_⟩
          rw [upd_s, upd_s, qI_or, qI_or, Bool.or_eq_true, Bool.or_eq_true, qI_sh (by omega) (by omega), decide_eq_true_eq, qI_0, show x.toInt.toNat = X by omega]
          constructor
          · constructor
            · rintro (g | g)
              · exact Or.inl g
              · subst g; exact Or.inr ⟨rfl, zV, g1⟩
            · rintro (g | g)
              · exact Or.inl g
              · exact Or.inr g.1.symm
          · constructor
            · rintro (g | g)
              · exact Or.inl g
              · cases g
            · rintro (g | g)
              · exact Or.inl g
              · have g5 := g.2.2.2; rw [g.1, g3] at g5; cases g5
      · rw [g2, if_neg n00]
        refine skip A B ⟨fun j _ => ⟨rfl, rfl⟩, fun s _ => ⟨⟨fun h => Or.inl h, fun h => h.elim id (fun g => ?_)⟩, ⟨fun h => Or.inl h, fun h => h.elim id (fun g => ?_)⟩⟩⟩
        · have g3 := g.2.2; rw [g.1, g1] at g3; cases g3
        · have g3 := g.2.2.1; rw [g.1, g1] at g3; cases g3
end CLOSEM
