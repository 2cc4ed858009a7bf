/-! how many of each, on both sides -/
theorem skp_pastc {α : Type} {i : Int} : ∀ (L : List α) (n : Int), i < n → skp i n L = none := by
  intro L
  induction L with
  | nil => intro n _; rfl
  | cons x L ih =>
    intro n h
    show (if n = i then some x else skp i (n + 1) L) = none
    rw [if_neg (by omega)]
    exact ih (n + 1) (by omega)
section CNT
variable {v day i3 i6 i9 cu : Int32} {a7 a8 a13 a18 a19 a20 a21 a22 a23 a24 a25 a26 b2 b3 b4 b8 b15 b16 b17 b18 b19 b20 b21 b22 b23 b24 b25 b26 b5 : Nat → Int32} {r9n rtn : Nat → Nat} {r9c rtc : Nat → Nat → Int32} {c : Nat}
variable {u0 i0 i1 i2 i7 i10 i28 i29 i30 m22 m23 m24 m25 i17 i18 i19 i20 i21 i22 i23 i24 i25 i26 : Int32} {a29 a36 a38 a39 a40 b28 b29 b33 b34 b35 b36 b37 b38 b39 b40 b41 b42 b43 b54 : Nat → Int32} {l41 : Nat → Int64} {ptn : Nat} {ptc : Nat → Int32} {og : Nat → Nat → Int32} {ogn : Nat → Nat → Nat} {ogc : Nat → Nat → Nat → Int32}
theorem fv_tail (h : ∀ v : Nat, i3.toInt ≤ (v : Int) → v < 60 → (a29 v).toInt = -1) : ∀ (m f X : Nat) (x2 x3 : Int32), x3.toInt = (X : Int) → 60 = X + m → m < f → i3.toInt ≤ (X : Int) → f_x8_fixedVerses_j1 a29 f x2 x3 = x2 := by
  have o1 := co1
  intro m
  induction m with
  | zero =>
    intro f X x2 x3 hx hm hf _
    obtain ⟨f, rfl⟩ : ∃ w, f = w + 1 := ⟨f - 1, by omega⟩
    rw [S_x8_fixedVerses_j1, if_pos (by omega)]
  | succ m ih =>
    intro f X x2 x3 hx hm hf hX
    obtain ⟨f, rfl⟩ : ∃ w, f = w + 1 := ⟨f - 1, by omega⟩
    have hx1 := toInt_add hx co1 (by omega) (by omega)
    rw [S_x8_fixedVerses_j1, if_neg (by omega), nc hx, if_pos (h X hX (by omega))]
    exact ih f (X + 1) x2 (x3 + Int32.ofInt 1) (by omega) (by omega) (by omega) (by omega)
theorem fv_both (h3 : 0 ≤ i3.toInt ∧ i3.toInt ≤ 60) (h10 : 0 ≤ i10.toInt ∧ i10.toInt ≤ 200) (hF : FXD i10 a29 b34 b35) (h : ∀ v : Nat, i3.toInt ≤ (v : Int) → v < 60 → (a29 v).toInt = -1) : ∀ (m f g X : Nat) (x2 x3 x30 x31 : Int32), x3.toInt = (X : Int) → x31.toInt = (X : Int) → i3.toInt = (X : Int) + m → 60 < X + f → m < g → x2.toInt = x30.toInt → 0 ≤ x2.toInt → x2.toInt + m ≤ 1000 →
    (f_x8_fixedVerses_j1 a29 f x2 x3).toInt = (f_m12_count_j29 i3 i10 m22 m23 m24 m25 b28 b29 b34 b35 b54 g x30 x31).1.toInt := by
  have o1 := co1
  have e1 := c1
  intro m
  induction m with
  | zero =>
    intro f g X x2 x3 x30 x31 hx hy hm hf hg e _ _
    obtain ⟨g, rfl⟩ : ∃ w, g = w + 1 := ⟨g - 1, by omega⟩
    rw [S_m12_count_j29, if_pos (by omega), fv_tail h (60 - X) f X x2 x3 hx (by omega) (by omega) (by omega)]
    exact e
  | succ m ih =>
    intro f g X x2 x3 x30 x31 hx hy hm hf hg e h0 hb
    obtain ⟨f, rfl⟩ : ∃ w, f = w + 1 := ⟨f - 1, by omega⟩
    obtain ⟨g, rfl⟩ : ∃ w, g = w + 1 := ⟨g - 1, by omega⟩
    have hx1 := toInt_add hx co1 (by omega) (by omega)
    have hy1 := toInt_add hy co1 (by omega) (by omega)
    have k1 := toInt_add (x := x2) rfl co1 (by omega) (by omega)
    have k2 := toInt_add (x := x30) rfl c1 (by omega) (by omega)
    have k3 := toInt_add (x := x30) rfl c0 (by omega) (by omega)
    rw [S_x8_fixedVerses_j1, S_m12_count_j29, if_neg (show ¬ x3.toInt ≥ 60 by omega), if_neg (show ¬ x31.toInt ≥ i3.toInt by omega), nc hx, fo_of hy (by omega) h10 hF]
    by_cases w : (a29 X).toInt = -1
    · rw [if_pos w, if_neg (fun z => z w)]
      exact ih f g (X + 1) x2 (x3 + Int32.ofInt 1) (x30 + (0 : Int32)) (x31 + Int32.ofInt 1) (by omega) (by omega) (by omega) (by omega) (by omega) (by omega) h0 (by omega)
    · rw [if_neg w, if_pos w]
      exact ih f g (X + 1) (x2 + Int32.ofInt 1) (x3 + Int32.ofInt 1) (x30 + (1 : Int32)) (x31 + Int32.ofInt 1) (by omega) (by omega) (by omega) (by omega) (by omega) (by omega) (by omega) (by omega)
theorem is_both (h10 : 0 ≤ i10.toInt ∧ i10.toInt ≤ 200) (hS : RNS i3 i10 og b34 b35 b43) : ∀ (m f g X : Nat) (x2 x3 x72 x73 : Int32), x3.toInt = (X : Int) → x73.toInt = (X : Int) → i10.toInt = (X : Int) + m → m < f → m < g → x2.toInt = x72.toInt → 0 ≤ x2.toInt → x2.toInt + m ≤ 1000 →
    (f_x8_inState_j1 (u0 - (20 : Int32)) i10 og f x2 x3).toInt = (f_m12_count_j71 u0 i10 m22 m23 m24 m25 b28 b29 b35 b54 g x72 x73).1.toInt := by
  have o1 := co1
  have e1 := c1
  intro m
  induction m with
  | zero =>
    intro f g X x2 x3 x72 x73 hx hy hm hf hg e _ _
    obtain ⟨f, rfl⟩ : ∃ w, f = w + 1 := ⟨f - 1, by omega⟩
    obtain ⟨g, rfl⟩ : ∃ w, g = w + 1 := ⟨g - 1, by omega⟩
    rw [S_x8_inState_j1, S_m12_count_j71, if_pos (show x3.toInt ≥ i10.toInt by omega), if_pos (show x73.toInt ≥ i10.toInt by omega)]
    exact e
  | succ m ih =>
    intro f g X x2 x3 x72 x73 hx hy hm hf hg e h0 hb
    obtain ⟨f, rfl⟩ : ∃ w, f = w + 1 := ⟨f - 1, by omega⟩
    obtain ⟨g, rfl⟩ : ∃ w, g = w + 1 := ⟨g - 1, by omega⟩
    have hx1 := toInt_add hx co1 (by omega) (by omega)
    have hy1 := toInt_add hy co1 (by omega) (by omega)
    have k1 := toInt_add (x := x2) rfl co1 (by omega) (by omega)
    have k2 := toInt_add (x := x72) rfl c1 (by omega) (by omega)
    have k3 := toInt_add (x := x72) rfl c0 (by omega) (by omega)
    have es : F_x7_stateNumber X og = b35 X := (hS.1 X (by omega)).1
    rw [S_x8_inState_j1, S_m12_count_j71, if_neg (show ¬ x3.toInt ≥ i10.toInt by omega), if_neg (show ¬ x73.toInt ≥ i10.toInt by omega), nc hx, nc hy, es]
    by_cases w : (b35 X).toInt ≠ (u0 - (20 : Int32)).toInt
    · rw [if_pos w, if_pos w]
      exact ih f g (X + 1) x2 (x3 + Int32.ofInt 1) (x72 + (0 : Int32)) (x73 + Int32.ofInt 1) (by omega) (by omega) (by omega) (by omega) (by omega) (by omega) h0 (by omega)
    · rw [if_neg w, if_neg w]
      exact ih f g (X + 1) (x2 + Int32.ofInt 1) (x3 + Int32.ofInt 1) (x72 + (1 : Int32)) (x73 + Int32.ofInt 1) (by omega) (by omega) (by omega) (by omega) (by omega) (by omega) (by omega) (by omega)
theorem R_count (hv : 0 ≤ i3.toInt ∧ i3.toInt ≤ 60) (h6 : 0 ≤ i6.toInt ∧ i6.toInt ≤ 6) (h9 : 0 ≤ i9.toInt ∧ i9.toInt ≤ 20) (hV : VRS i3 a7 b2) (hM : MES i3 a8 b3) (hP : PPL i6 a13 b8) (hL : LAW i9 a18 a19 a20 a21 a22 a23 a24 a25 b15 b16 b17 b18 b19 b20 b21 b22) (hK : KI i9 b18 b19 b20 b21 b22) (hR : RWS r9n r9c b4 b5) (hC : RCC i9 a21 a26 rtn rtc b23 b24 b25 b26) (hN : RNC i10 og ogn ogc b33 b34 b36 b37 b38 b39 b40 b41 b42) (hF : FXD i10 a29 b34 b35) (h10 : 0 ≤ i10.toInt ∧ i10.toInt ≤ 200) (hT : ∀ j, 0 ≤ (b39 j).toInt ∧ (b39 j).toInt ≤ 255) (hS : RNS i3 i10 og b34 b35 b43) : (F_x11_count u0 i0 day i2 i3 i6 i7 i9 i10 i17 i18 i19 i20 i21 i22 i23 i24 i25 i26 i28 i29 i30 a7 a8 a13 a18 a19 a20 a21 a22 a23 a25 a26 a29 a36 a38 a39 a40 l41 r9n r9c og ogn ogc rtn rtc ptn ptc).1 = (F_m12_count u0 i0 day i3 i2 i6 i7 i9 i10 m22 m23 m24 m25 i30 b2 b3 b4 b8 b15 b16 b17 b18 b19 b20 b21 b23 b24 b25 b26 b28 b29 b34 b35 b38 b39 b40 b41 b42 b54).1 := by
  have c20 : (20 : Int32).toInt = 20 := by decide
  have c24 : (24 : Int32).toInt = 24 := by decide
  have hno : ∀ v : Nat, i3.toInt ≤ (v : Int) → v < 60 → (a29 v).toInt = -1 := by
    intro v h1 h2
    rcases hF v h2 with ⟨q, _⟩ | ⟨r, r1, r2, r3, _, _⟩
    · exact q
    · have := (hS.1 r r1).2.2.2.1; omega
  rw [E_x11_count, E_m12_count]
  rcases mlie (u := u0) c20 c24 with ⟨g1, g⟩ | ⟨g1, g⟩
  · rw [g, if_neg n10, if_neg (show ¬ u0.toInt = 0 by omega), if_neg (show ¬ u0.toInt = 1 by omega), if_neg (show ¬ u0.toInt = 2 by omega), if_neg (show ¬ u0.toInt = 3 by omega), if_neg (show ¬ u0.toInt = 4 by omega), if_neg (show ¬ u0.toInt = 5 by omega), if_neg (show ¬ u0.toInt = 6 by omega), if_neg (show ¬ u0.toInt = 7 by omega), if_neg (show ¬ u0.toInt = 8 by omega), if_neg (show ¬ u0.toInt = 9 by omega), if_neg (show ¬ u0.toInt = 10 by omega), if_neg (show ¬ u0.toInt < 20 by omega), if_neg (show ¬ u0.toInt > 24 by omega), E_x8_inState]
    exact eq_of_toInt (is_both h10 hS i10.toInt.toNat 201 201 0 0 0 0 0 c0 c0 (by omega) (by omega) (by omega) rfl (by decide) (by rw [c0]; omega))
  · rw [g, if_pos y00]
    by_cases k0 : u0.toInt = 0
    · rw [if_pos k0, if_pos k0]
    · rw [if_neg k0, if_neg k0]
      by_cases k1 : u0.toInt = 1
      · rw [if_pos k1, if_pos k1]; rfl
      · rw [if_neg k1, if_neg k1]
        by_cases k2 : u0.toInt = 2
        · rw [if_pos k2, if_pos k2]; rfl
        · rw [if_neg k2, if_neg k2]
          by_cases k3 : u0.toInt = 3
          · rw [if_pos k3, if_pos k3]; rfl
          · rw [if_neg k3, if_neg k3]
            by_cases k4 : u0.toInt = 4
            · rw [if_pos k4, if_pos k4]; rfl
            · rw [if_neg k4, if_neg k4]
              by_cases k5 : u0.toInt = 5
              · rw [if_pos k5, if_pos k5]; rfl
              · rw [if_neg k5, if_neg k5]
                by_cases k6 : u0.toInt = 6
                · rw [if_pos k6, if_pos k6]; rfl
                · rw [if_neg k6, if_neg k6]
                  by_cases k7 : u0.toInt = 7
                  · rw [if_pos k7, if_pos k7]
                  · rw [if_neg k7, if_neg k7]
                    by_cases k8 : u0.toInt = 8
                    · rw [if_pos k8, if_pos k8]; rfl
                    · rw [if_neg k8, if_neg k8]
                      by_cases k9 : u0.toInt = 9
                      · rw [if_pos k9, if_pos k9, E_x8_fixedVerses]
                        exact eq_of_toInt (fv_both hv h10 hF hno i3.toInt.toNat 61 61 0 0 0 0 0 c0 c0 (by omega) (by omega) (by omega) rfl (by decide) (by rw [c0]; omega))
                      · rw [if_neg k9, if_neg k9]
                        by_cases k10 : u0.toInt = 10
                        · rw [if_pos k10, if_pos k10]
                          obtain ⟨L, y, d28, d29, c54, T, hQ, hy, hX, hh⟩ := BUN (wt := (-1 : Int32)) (day := day) (i3 := i3) (i6 := i6) (i9 := i9) (m22 := m22) (m23 := m23) (m24 := m24) (m25 := m25) (i17 := i17) (i18 := i18) (i19 := i19) (i20 := i20) (i21 := i21) (i22 := i22) (i23 := i23) (i24 := i24) (i25 := i25) (i26 := i26) (a36 := a36) (a38 := a38) (a39 := a39) (a40 := a40) (l41 := l41) (b28 := b28) (b29 := b29) (b54 := b54) (ptn := ptn) (ptc := ptc) hv h6 h9 hV hM hP hL hK hR hC hN hF h10 hT
                          rw [hQ, hX]
                          show F_x1_seen (T.2.2.2.2.2.2.2.2.2.2.2.2.1) = y
                          rw [E_x1_seen]
                          rcases hh with ⟨x, x1, _⟩ | ⟨_, _, x3⟩
                          · rw [skp_pastc L 0 (by decide)] at x1; cases x1
                          · exact eq_of_toInt (by omega)
                        · rw [if_neg k10, if_neg k10]
                          by_cases w : u0.toInt < 20
                          · rw [if_pos w]
                          · rw [if_neg w, if_pos (show u0.toInt > 24 by omega)]
end CNT
