/-! RENDER, on both sides: the tape, and how many there are -/
abbrev R11i := Int32 × Int32 × Int32 × Int32 × Int32 × Int32 × Int32 × Int32 × Int32 × Int32 × Int32
def RRE (x : R11i) (m : Int32 × Int32 × Int32) : Prop := x.1 = m.1 ∧ x.2.1 = m.2.1 ∧ x.2.2.1 = m.2.2 ∧ (0 ≤ x.2.1.toInt ∧ x.2.1.toInt ≤ 200) ∧ (0 ≤ x.2.2.1.toInt ∧ x.2.2.1.toInt ≤ 200)
theorem re_end2 {p2 i7 : Int32} : ∀ (m f : Nat) (x : Int32), 0 ≤ x.toInt → p2.toInt = x.toInt + m → p2.toInt ≤ 12 → m < f → f_m12_render_j70 p2 i7 f x = (i7, 0, i7 + 1) := by
  intro m
  induction m with
  | zero =>
    intro f x h0 hu _ hf
    obtain ⟨f, rfl⟩ : ∃ w, f = w + 1 := ⟨f - 1, by omega⟩
    rw [S_m12_render_j70, if_pos (by omega)]
  | succ m ih =>
    intro f x h0 hu hu2 hf
    obtain ⟨f, rfl⟩ : ∃ w, f = w + 1 := ⟨f - 1, by omega⟩
    have hx1 := toInt_add (x := x) rfl co1 (by omega) (by omega)
    rw [S_m12_render_j70, if_neg (by omega)]
    exact ih f (x + Int32.ofInt 1) (by omega) (by omega) hu2 (by omega)
theorem re_end1 {p2 i7 z : Int32} {a4 : Nat → Int32} (hp : 0 ≤ p2.toInt ∧ p2.toInt ≤ 12) : ∀ (m f : Nat) (x : Int32), 0 ≤ x.toInt → (a4 z.toNatClampNeg).toInt = x.toInt + m → (a4 z.toNatClampNeg).toInt ≤ 8 → m < f → f_m12_render_j62 p2 i7 a4 z f x = (i7, 0, i7 + 1) := by
  intro m
  induction m with
  | zero =>
    intro f x h0 hu _ hf
    obtain ⟨f, rfl⟩ : ∃ w, f = w + 1 := ⟨f - 1, by omega⟩
    rw [S_m12_render_j62, if_pos (by omega)]
    exact re_end2 p2.toInt.toNat 13 0 (by decide) (by rw [c0]; omega) hp.2 (by omega)
  | succ m ih =>
    intro f x h0 hu hu2 hf
    obtain ⟨f, rfl⟩ : ∃ w, f = w + 1 := ⟨f - 1, by omega⟩
    have hx1 := toInt_add (x := x) rfl co1 (by omega) (by omega)
    rw [S_m12_render_j62, if_neg (by omega)]
    exact ih f (x + Int32.ofInt 1) (by omega) (by omega) hu2 (by omega)
theorem slot_loop {u2 sz i0 i2 i7 z : Int32} {a1 b1 b4 : Nat → Int32} (hT : TPR a1 b1) (hw : 0 ≤ i2.toInt) (hz : b4 z.toNatClampNeg = sz) (hu12 : u2.toInt ≤ 12) : ∀ (m f g : Nat) (x : Int32) (k : Nat), x.toInt = (k : Int) → u2.toInt = (k : Int) + m → m < f → m < g →
    (f_x11_tapeHasSlots_j1 u2 sz i2 a1 f x = 1 ∧ f_m12_render_j48 u2 i0 i2 i7 b1 b4 z g x = f_m12_render_j62 u2 i7 b4 z 9 0) ∨ (f_x11_tapeHasSlots_j1 u2 sz i2 a1 f x = 0 ∧ f_m12_render_j48 u2 i0 i2 i7 b1 b4 z g x = ((-1 : Int32), i0, i7)) := by
  intro m
  induction m with
  | zero =>
    intro f g x k hx hu hf hg
    obtain ⟨f, rfl⟩ : ∃ w, f = w + 1 := ⟨f - 1, by omega⟩
    obtain ⟨g, rfl⟩ : ∃ w, g = w + 1 := ⟨g - 1, by omega⟩
    rw [S_x11_tapeHasSlots_j1, S_m12_render_j48, if_pos (show x.toInt ≥ u2.toInt by omega), if_pos (show x.toInt ≥ u2.toInt by omega)]
    exact Or.inl ⟨rfl, rfl⟩
  | succ m ih =>
    intro f g x k hx hu hf hg
    obtain ⟨f, rfl⟩ : ∃ w, f = w + 1 := ⟨f - 1, by omega⟩
    obtain ⟨g, rfl⟩ : ∃ w, g = w + 1 := ⟨g - 1, by omega⟩
    have hx1 := toInt_add hx co1 (by omega) (by omega)
    have IH := ih f g (x + Int32.ofInt 1) (k + 1) (by omega) (by omega) (by omega) (by omega)
    clear hx1
    rw [S_x11_tapeHasSlots_j1, S_m12_render_j48, if_neg (show ¬ x.toInt ≥ u2.toInt by omega), if_neg (show ¬ x.toInt ≥ u2.toInt by omega), TPR_and hT, TPR_and hT, hz]
    rcases xhasW (u := a1 ((2 : Int32) * x).toNatClampNeg) (i3 := i2) with ⟨h1, h⟩ | ⟨h1, h⟩
    · rcases mword (u := a1 ((2 : Int32) * x).toNatClampNeg) (i2 := i2) hw with ⟨_, g'⟩ | ⟨g1, _⟩
      · rw [h, g', if_neg n10, if_neg n10]
        by_cases w : (a1 ((2 : Int32) * x + 1).toNatClampNeg).toInt = 8
        · rw [if_pos w, if_pos w]; exact IH
        · rw [if_neg w, if_neg w]
          by_cases w2 : (a1 ((2 : Int32) * x + 1).toNatClampNeg).toInt < sz.toInt
          · rw [if_pos w2, if_pos w2]; exact IH
          · rw [if_neg w2, if_neg w2]; exact Or.inr ⟨rfl, rfl⟩
      · exact absurd h1 g1
    · rcases mword (u := a1 ((2 : Int32) * x).toNatClampNeg) (i2 := i2) hw with ⟨g1, _⟩ | ⟨_, g'⟩
      · exact absurd g1 h1
      · rw [h, g', if_pos y00, if_pos y00]; exact Or.inr ⟨rfl, rfl⟩
def GRD (u0 u1 u2 i0 i3 i5 i10 : Int32) (b12 : Nat → Int32) : Prop := (0 ≤ u0.toInt ∧ u0.toInt < i5.toInt) ∧ (b12 u0.toNatClampNeg).toInt = 0 ∧ (0 ≤ u1.toInt ∧ u1.toInt < i3.toInt) ∧ i10.toInt < 200 ∧ (1 ≤ u2.toInt ∧ u2.toInt ≤ 12) ∧ ((2 : Int32) * u2).toInt ≤ i0.toInt
section REN
variable {u0 u1 u2 i0 i1 i2 i3 i5 i6 i8 i9 i10 i17 i18 i19 i20 i21 i22 i23 i24 : Int32} {a1 a7 a8 a13 a18 a19 a20 a21 a22 a23 a24 a25 b1 b2 b4 b5 b8 b12 b15 b16 b17 b18 b19 b20 b21 b22 : Nat → Int32} {r9n : Nat → Nat} {r9c : Nat → Nat → Int32}
theorem mre : (GRD u0 u1 u2 i0 i3 i5 i10 b12 ∧ F_m12_render u0 u1 u2 i0 i1 i3 i2 i6 i5 i9 i10 b1 b2 b4 b8 b12 b15 b16 b17 b18 b19 b20 b21 = if (F_m12_copyOf u1 i1 i6 i9 b2 b4 b8 b15 b16 b17 b18 b19 b20 b21).toInt ≠ (-1) then f_m12_render_j48 u2 i0 i2 i10 b1 b4 (((3 : Int32) * u1) + (F_m12_copyOf u1 i1 i6 i9 b2 b4 b8 b15 b16 b17 b18 b19 b20 b21)) 13 (0 : Int32) else ((-1 : Int32), i0, i10)) ∨
    (¬ GRD u0 u1 u2 i0 i3 i5 i10 b12 ∧ F_m12_render u0 u1 u2 i0 i1 i3 i2 i6 i5 i9 i10 b1 b2 b4 b8 b12 b15 b16 b17 b18 b19 b20 b21 = ((-1 : Int32), i0, i10)) ∨ i5.toInt < 0 ∨ 24 < i5.toInt ∨ i3.toInt < 0 ∨ 200 < i10.toInt := by
  by_cases n5 : i5.toInt < 0
  · exact Or.inr (Or.inr (Or.inl n5))
  by_cases n6 : 24 < i5.toInt
  · exact Or.inr (Or.inr (Or.inr (Or.inl n6)))
  by_cases n7 : i3.toInt < 0
  · exact Or.inr (Or.inr (Or.inr (Or.inr (Or.inl n7))))
  by_cases n8 : 200 < i10.toInt
  · exact Or.inr (Or.inr (Or.inr (Or.inr (Or.inr n8))))
  have e1 : (i5 - 1).toInt = i5.toInt - 1 := by have := toInt_sub (x := i5) rfl c1 (by omega) (by omega); omega
  have c12' : (12 : Int32).toInt = 12 := by decide
  rw [E_m12_render]
  unfold GRD
  by_cases w : i10.toInt = 200
  · rw [if_pos w]; exact Or.inr (Or.inl ⟨fun z => by have := z.2.2.2.1; omega, rfl⟩)
  · rw [if_neg w]
    rcases mlie (u := u0) c0 e1 with ⟨g1, g⟩ | ⟨g1, g⟩
    · rw [g, if_neg n10]
      by_cases v : (b12 u0.toNatClampNeg).toInt ≠ 0
      · rw [if_pos v]; exact Or.inr (Or.inl ⟨fun z => v z.2.1, rfl⟩)
      · rw [if_neg v]
        rcases mver (u := u1) (i2 := i3) (by omega) with ⟨k1, k⟩ | ⟨k1, k⟩
        · rw [k, if_neg n10]
          rcases mlie (u := u2) c1 c12' with ⟨l1, l⟩ | ⟨l1, l⟩
          · rw [l, if_neg n10]
            by_cases w3 : ((2 : Int32) * u2).toInt ≤ i0.toInt
            · rw [if_pos w3]
              exact Or.inl ⟨⟨by omega, by omega, k1, by omega, l1, w3⟩, rfl⟩
            · rw [if_neg w3]; exact Or.inr (Or.inl ⟨fun z => w3 z.2.2.2.2.2, rfl⟩)
          · rw [l, if_pos y00]; exact Or.inr (Or.inl ⟨fun z => l1 z.2.2.2.2.1, rfl⟩)
        · rw [k, if_pos y00]; exact Or.inr (Or.inl ⟨fun z => k1 z.2.2.1, rfl⟩)
    · rw [g, if_pos y00]; exact Or.inr (Or.inl ⟨fun z => g1 (by have := z.1; omega), rfl⟩)
/-- the class's answer where the call is allowed -/
noncomputable def XRC (u1 u2 i0 i2 i3 i10 : Int32) (a1 : Nat → Int32) (r9n : Nat → Nat) (r9c : Nat → Nat → Int32) (t : Int32 × Int32 × Int32 × Int32 × Int32 × Int32 × Int32 × Int32) : R11i :=
  if (Int32.ofNat (F_x9_rowOf u1 (F_x6_firstCopy t.2.2.2.2.1) i3 r9n r9c).1).toInt = 0 then ((-1 : Int32), i0, i10, t.1, t.2.1, t.2.2.1, t.2.2.2.1, t.2.2.2.2.1, t.2.2.2.2.2.1, t.2.2.2.2.2.2.1, t.2.2.2.2.2.2.2)
  else (if (F_x11_tapeHasSlots u2 (Int32.ofNat (F_x9_rowOf u1 (F_x6_firstCopy t.2.2.2.2.1) i3 r9n r9c).1) i2 a1).toInt ≠ 0 then ((F_x8_enter i10).1, (0 : Int32), (F_x8_enter i10).2, t.1, t.2.1, t.2.2.1, t.2.2.2.1, t.2.2.2.2.1, t.2.2.2.2.2.1, t.2.2.2.2.2.2.1, t.2.2.2.2.2.2.2) else ((-1 : Int32), i0, i10, t.1, t.2.1, t.2.2.1, t.2.2.2.1, t.2.2.2.2.1, t.2.2.2.2.2.1, t.2.2.2.2.2.2.1, t.2.2.2.2.2.2.2))
theorem xre (hD : VDS i8 b12) (h5 : 0 ≤ i5.toInt ∧ i5.toInt ≤ 24) : (GRD u0 u1 u2 i0 i3 i5 i10 b12 ∧ F_x11_render u0 u1 u2 i0 i1 i2 i3 i6 i5 i8 i9 i10 i17 i18 i19 i20 i21 i22 i23 i24 a1 a7 a8 a13 a18 a19 a20 a21 a22 a23 a25 r9n r9c = XRC u1 u2 i0 i2 i3 i10 a1 r9n r9c (F_x6_aim u1 i1 i3 i6 i9 a7 a8 a13 a18 a19 a20 a21 a22 a23 a25 r9n r9c)) ∨
    (¬ GRD u0 u1 u2 i0 i3 i5 i10 b12 ∧ F_x11_render u0 u1 u2 i0 i1 i2 i3 i6 i5 i8 i9 i10 i17 i18 i19 i20 i21 i22 i23 i24 a1 a7 a8 a13 a18 a19 a20 a21 a22 a23 a25 r9n r9c = ((-1 : Int32), i0, i10, i17, i18, i19, i20, i21, i22, i23, i24)) := by
  have fl : F_x8_isFull i10 = if i10.toInt < 200 then (0 : Int32) else (1 : Int32) := rfl
  rw [E_x11_render]
  unfold GRD
  rcases xsch (u := u0) (i7 := i5) with ⟨h1, h⟩ | ⟨h1, h⟩
  · rw [h, if_neg n10]
    rcases vd_at hD (u := u0) (by omega) with ⟨v1, v⟩ | ⟨v1, v⟩
    · rw [v, if_neg n00]
      rcases xhas (u := u1) (i3 := i3) with ⟨k1, k⟩ | ⟨k1, k⟩
      · rw [k, if_neg n10, fl]
        by_cases w : i10.toInt < 200
        · rw [if_pos w, if_pos y00]
          by_cases w1 : u2.toInt < 1
          · rw [if_pos w1]; exact Or.inr ⟨fun z => by have := z.2.2.2.2.1; omega, rfl⟩
          · rw [if_neg w1]
            by_cases w2 : u2.toInt > 12
            · rw [if_pos w2]; exact Or.inr ⟨fun z => by have := z.2.2.2.2.1; omega, rfl⟩
            · rw [if_neg w2]
              by_cases w3 : ((2 : Int32) * u2).toInt ≤ i0.toInt
              · rw [if_pos w3]
                exact Or.inl ⟨⟨h1, v1, k1, w, by omega, w3⟩, rfl⟩
              · rw [if_neg w3]; exact Or.inr ⟨fun z => w3 z.2.2.2.2.2, rfl⟩
        · rw [if_neg w, if_neg n10]; exact Or.inr ⟨fun z => w z.2.2.2.1, rfl⟩
      · rw [k, if_pos y00]; exact Or.inr ⟨fun z => k1 z.2.2.1, rfl⟩
    · rw [v, if_pos y10]; exact Or.inr ⟨fun z => v1 z.2.1, rfl⟩
  · rw [h, if_pos y00]; exact Or.inr ⟨fun z => h1 z.1, rfl⟩
theorem row_none {u : Int32} {c : Int32} (hc : c.toInt = -1) : Int32.ofNat (F_x9_rowOf u c i3 r9n r9c).1 = 0 := by
  rw [E_x9_rowOf]
  rcases xhas (u := u) (i3 := i3) with ⟨_, h⟩ | ⟨_, h⟩
  · rw [h, if_neg n10]
    rcases xcop (u := c) with ⟨k1, _⟩ | ⟨_, k⟩
    · omega
    · rw [k, if_neg n00]; rfl
  · rw [h, if_pos y00]; rfl
theorem XRC_of {t : Int32 × Int32 × Int32 × Int32 × Int32 × Int32 × Int32 × Int32} {r : Int32} {w : Nat} (hi : 0 ≤ i0.toInt ∧ i0.toInt ≤ 200) (h10 : 0 ≤ i10.toInt ∧ i10.toInt < 200) (h2 : 0 ≤ i2.toInt) (hu : 1 ≤ u2.toInt ∧ u2.toInt ≤ 12) (hv : u1.toInt = (w : Int)) (hv2 : (w : Int) < i3.toInt) (hi3 : i3.toInt ≤ 60) (hT : TPR a1 b1) (hR : RWS r9n r9c b4 b5)
    (hc : CPY b4 w (t.2.2.2.2.1, t.2.2.2.2.2.1) r) :
    RRE (XRC u1 u2 i0 i2 i3 i10 a1 r9n r9c t) (if r.toInt ≠ (-1) then f_m12_render_j48 u2 i0 i2 i10 b1 b4 (((3 : Int32) * u1) + r) 13 (0 : Int32) else ((-1 : Int32), i0, i10)) := by
  obtain ⟨ht, hc⟩ := hc
  have ht : t.2.2.2.2.1 = r := ht
  have e0 := c0
  unfold XRC
  rw [ht, show F_x6_firstCopy r = r from rfl]
  have go : ∀ c : Nat, c ≤ 2 → r.toInt = (c : Int) → 0 < (b4 (3 * w + c)).toInt → RRE (if (Int32.ofNat (F_x9_rowOf u1 r i3 r9n r9c).1).toInt = 0 then ((-1 : Int32), i0, i10, t.1, t.2.1, t.2.2.1, t.2.2.2.1, r, t.2.2.2.2.2.1, t.2.2.2.2.2.2.1, t.2.2.2.2.2.2.2)
      else (if (F_x11_tapeHasSlots u2 (Int32.ofNat (F_x9_rowOf u1 r i3 r9n r9c).1) i2 a1).toInt ≠ 0 then ((F_x8_enter i10).1, (0 : Int32), (F_x8_enter i10).2, t.1, t.2.1, t.2.2.1, t.2.2.2.1, r, t.2.2.2.2.2.1, t.2.2.2.2.2.2.1, t.2.2.2.2.2.2.2) else ((-1 : Int32), i0, i10, t.1, t.2.1, t.2.2.1, t.2.2.2.1, r, t.2.2.2.2.2.1, t.2.2.2.2.2.2.1, t.2.2.2.2.2.2.2)))
      (if r.toInt ≠ (-1) then f_m12_render_j48 u2 i0 i2 i10 b1 b4 (((3 : Int32) * u1) + r) 13 (0 : Int32) else ((-1 : Int32), i0, i10)) := by
    intro c hc2 hr hp
    have z := row_sz hR hv hr hv2 hi3 hc2
    obtain ⟨x1, x2⟩ := idx3 hv hr (by omega) hc2
    have g8 := (hR (3 * w + c) (by omega)).1
    rw [z, if_neg (show ¬ (b4 (3 * w + c)).toInt = 0 by omega), if_pos (show r.toInt ≠ -1 by omega)]
    have ef : F_x11_tapeHasSlots u2 (b4 (3 * w + c)) i2 a1 = f_x11_tapeHasSlots_j1 u2 (b4 (3 * w + c)) i2 a1 13 0 := rfl
    rw [ef]
    have S := slot_loop (u2 := u2) (sz := b4 (3 * w + c)) (i0 := i0) (i2 := i2) (i7 := i10) (z := (3 : Int32) * u1 + r) (b4 := b4) hT h2 (by rw [nc x2]) hu.2 u2.toInt.toNat 13 13 0 0 c0 (by omega) (by omega) (by omega)
    rcases S with ⟨s1, s2⟩ | ⟨s1, s2⟩
    · rw [s1, s2, if_pos y10, re_end1 ⟨by omega, hu.2⟩ (b4 (3 * w + c)).toInt.toNat 9 0 (by decide) (by rw [nc x2, c0]; omega) (by rw [nc x2]; omega) (by omega)]
      have fl : F_x8_isFull i10 = 0 := by rw [E_x8_isFull, if_pos h10.2]
      have ej := toInt_add (x := i10) rfl c1 (by omega) (by omega)
      have ek := toInt_sub ej c1 (by omega) (by omega)
      rw [E_x8_enter]
      exact ⟨eq_of_toInt (by show (i10 + 1 - 1).toInt = i10.toInt; omega), rfl, rfl, ⟨by show 0 ≤ (0 : Int32).toInt; omega, by show (0 : Int32).toInt ≤ 200; omega⟩, ⟨by show 0 ≤ (i10 + 1).toInt; omega, by show (i10 + 1).toInt ≤ 200; omega⟩⟩
    · rw [s1, s2, if_neg n00]
      exact ⟨rfl, rfl, rfl, hi, ⟨h10.1, by show i10.toInt ≤ 200; omega⟩⟩
  rcases hc with ⟨p1, p2⟩ | ⟨p1, _, p3⟩ | ⟨p1, _, p3⟩ | ⟨p1, _, p3⟩
  · rw [row_none p1, if_pos y00, if_neg (fun z => z p1)]
    exact ⟨rfl, rfl, rfl, hi, ⟨h10.1, by show i10.toInt ≤ 200; omega⟩⟩
  · exact go 0 (by omega) p1 p3
  · exact go 1 (by omega) p1 p3
  · exact go 2 (by omega) p1 p3
theorem R_render (hi : 0 ≤ i0.toInt ∧ i0.toInt ≤ 200) (h10 : 0 ≤ i10.toInt ∧ i10.toInt ≤ 200) (h2 : 0 ≤ i2.toInt) (h3 : 0 ≤ i3.toInt ∧ i3.toInt ≤ 60) (h5 : 0 ≤ i5.toInt ∧ i5.toInt ≤ 24) (h6 : 0 ≤ i6.toInt ∧ i6.toInt ≤ 6) (h9 : 0 ≤ i9.toInt ∧ i9.toInt ≤ 20)
    (hT : TPR a1 b1) (hV : VRS i3 a7 b2) (hP : PPL i6 a13 b8) (hD : VDS i8 b12) (hL : LAW i9 a18 a19 a20 a21 a22 a23 a24 a25 b15 b16 b17 b18 b19 b20 b21 b22) (hK : KI i9 b18 b19 b20 b21 b22) (hR : RWS r9n r9c b4 b5) :
    RRE (F_x11_render u0 u1 u2 i0 i1 i2 i3 i6 i5 i8 i9 i10 i17 i18 i19 i20 i21 i22 i23 i24 a1 a7 a8 a13 a18 a19 a20 a21 a22 a23 a25 r9n r9c) (F_m12_render u0 u1 u2 i0 i1 i3 i2 i6 i5 i9 i10 b1 b2 b4 b8 b12 b15 b16 b17 b18 b19 b20 b21) := by
  rcases xre (u0 := u0) (u1 := u1) (u2 := u2) (i0 := i0) (i1 := i1) (i2 := i2) (i3 := i3) (i6 := i6) (i9 := i9) (i10 := i10) (i17 := i17) (i18 := i18) (i19 := i19) (i20 := i20) (i21 := i21) (i22 := i22) (i23 := i23) (i24 := i24) (a1 := a1) (a7 := a7) (a8 := a8) (a13 := a13) (a18 := a18) (a19 := a19) (a20 := a20) (a21 := a21) (a22 := a22) (a23 := a23) (a25 := a25) (r9n := r9n) (r9c := r9c) hD h5 with ⟨x1, x2⟩ | ⟨x1, x2⟩
  · rcases mre (u0 := u0) (u1 := u1) (u2 := u2) (i0 := i0) (i1 := i1) (i2 := i2) (i3 := i3) (i5 := i5) (i6 := i6) (i9 := i9) (i10 := i10) (b1 := b1) (b2 := b2) (b4 := b4) (b8 := b8) (b12 := b12) (b15 := b15) (b16 := b16) (b17 := b17) (b18 := b18) (b19 := b19) (b20 := b20) (b21 := b21) with ⟨_, m2⟩ | ⟨m1, _⟩ | m1 | m1 | m1 | m1
    · rw [x2, m2]
      obtain ⟨_, _, k1, k2, k3, _⟩ := x1
      obtain ⟨w, hw⟩ : ∃ w : Nat, u1.toInt = (w : Int) := ⟨u1.toInt.toNat, by omega⟩
      obtain ⟨v1, v2, v3⟩ := hV w (by omega)
      rcases xhas (u := u1) (i3 := i3) with ⟨_, h⟩ | ⟨g1, _⟩
      · have eb : F_x9_bookOf u1 i3 a7 = b2 u1.toNatClampNeg := by
          rw [E_x9_bookOf, h, if_neg n10, nc hw, v1]
        have ec : F_x4_companyOf (F_x9_bookOf u1 i3 a7) i6 a13 = F_m12_companyOf u1 i6 b2 b8 := by
          rw [eb]
          exact com_of hP (by rw [nc hw]; exact ⟨v2, v3⟩) h6
        obtain ⟨z20, q1, q2⟩ := aim_loop (v := u1) (day := i1) (i3 := i3) (i6 := i6) (v1 := F_x9_bookOf u1 i3 a7) (v5 := F_x9_measureOf u1 i3 a8) (b2 := b2) (b8 := b8) (r9n := r9n) (r9c := r9c) h9 hL i9.toInt.toNat 21 0 0 0 c0 (by omega) (by omega) (fun y y1 y2 => by omega) (fun j _ => qI_0 j)
        have ea : F_x6_aim u1 i1 i3 i6 i9 a7 a8 a13 a18 a19 a20 a21 a22 a23 a25 r9n r9c = (u1, i1, F_m12_companyOf u1 i6 b2 b8, z20, (F_x6_findCopy i3 i9 u1 z20 a21 a22 a23 a25 r9n r9c).1, (F_x6_findCopy i3 i9 u1 z20 a21 a22 a23 a25 r9n r9c).2, F_x9_bookOf u1 i3 a7, F_x9_measureOf u1 i3 a8) := by
          rw [E_x6_aim, ec]
          exact q1
        have CP := copy_of (day := i1) (i6 := i6) (b2 := b2) (b8 := b8) hw (by omega) h3.2 h9 q2 hL hK hR
        rw [ea]
        exact XRC_of hi ⟨h10.1, k2⟩ h2 k3 hw (by omega) h3.2 hT hR CP
      · exact absurd k1 g1
    · exact absurd x1 m1
    all_goals omega
  · rcases mre (u0 := u0) (u1 := u1) (u2 := u2) (i0 := i0) (i1 := i1) (i2 := i2) (i3 := i3) (i5 := i5) (i6 := i6) (i9 := i9) (i10 := i10) (b1 := b1) (b2 := b2) (b4 := b4) (b8 := b8) (b12 := b12) (b15 := b15) (b16 := b16) (b17 := b17) (b18 := b18) (b19 := b19) (b20 := b20) (b21 := b21) with ⟨m1, _⟩ | ⟨_, m2⟩ | m1 | m1 | m1 | m1
    · exact absurd m1 x1
    · rw [x2, m2]
      exact ⟨rfl, rfl, rfl, hi, h10⟩
    all_goals omega
end REN
