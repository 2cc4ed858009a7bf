/-! COST: what each OPTION costs, which are barred -/
abbrev R13b := Int32 × Int32 × Int32 × Int32 × Int32 × Int32 × Int32 × Int32 × Int32 × Int32 × (Nat → Int32) × Nat × (Nat → Int32)
section PRC
variable {v day i3 i6 i9 cu : Int32} {a7 a8 a13 a18 a19 a20 a21 a22 a23 a24 a25 a26 b2 b3 b4 b8 b15 b16 b17 b18 b19 b20 b21 b22 b23 b24 b25 b26 b5 : Nat → Int32} {r9n rtn : Nat → Nat} {r9c rtc : Nat → Nat → Int32} {c : Nat}
variable {i30 : Int32} {a43 a44 a45 a47 a48 b38 b39 b40 b41 b42 b55 b56 b57 b59 b60 : Nat → Int32} {r : Nat} {ogn : Nat → Nat → Nat} {ogc : Nat → Nat → Nat → Int32}
/-- where a SIGN stands among those with OPTIONS -/
theorem po_of {x : Int32} (hO : RO i30 a43 a44 a45 i30 b55 b56 b57) : (∃ K : Nat, (K : Int) < i30.toInt ∧ (F_x0_placeOf x i30 a43).toInt = (K : Int) ∧ F_m12_placeOf x i30 b55 = F_x0_placeOf x i30 a43) ∨ (F_x0_placeOf x i30 a43 = (-1 : Int32) ∧ (F_m12_placeOf x i30 b55).toInt = i30.toInt) := by
  rw [E_x0_placeOf, E_m12_placeOf]
  exact OP_loop (fun k hk => (hO.2.2.1 k hk).1) hO.2.1.2 7 0 0 c0 (by have := hO.2.1.1; omega) (by have := hO.2.1.2; omega)
/-- like prices, from 0 to n -/
def PQ (n : Int) (a b : Nat → Int32) : Prop := ∀ k, k < 24 → a k = b k ∧ 0 ≤ (a k).toInt ∧ (a k).toInt ≤ n
theorem PQ_mono {n n' : Int} {a b : Nat → Int32} (h : PQ n a b) (hn : n ≤ n') : PQ n' a b := fun k hk => ⟨(h k hk).1, (h k hk).2.1, by have := (h k hk).2.2; omega⟩
theorem add0 (x : Int32) : x + (0 : Int32) = x := eq_of_toInt (by have := toInt_add (x := x) rfl c0 (by have := (i32_all x).1; omega) (by have := (i32_all x).2; omega); omega)
theorem pi_loop {v44 x13 x36 : Int32} {K S s : Nat} {C : Int32 → (Nat → Int32) → (Nat → Int32)} {R : Int32 → (Nat → Int32) → (Nat → Int32) × (Nat → Int32) × (Nat → Int32) × (Nat → Int32)} (hO : RO i30 a43 a44 a45 i30 b55 b56 b57) (hk : v44.toInt = (K : Int)) (hK : (K : Int) < i30.toInt) (hS : (a44 K).toInt = (S : Int)) (hw : (F_x7_wordAt x13 r ogn ogc).toInt = (b41 x36.toNatClampNeg).toInt) {n : Int} (hn : 0 ≤ n ∧ n ≤ 1000) :
    ∀ (m f g j : Nat) (x52 x60 : Int32) (a47 b59 : Nat → Int32), x52.toInt = (j : Int) → x60.toInt = (j : Int) → S = j + m → m < f → m < g → (∀ q, q < 24 → a47 q = b59 q ∧ 0 ≤ (a47 q).toInt ∧ (a47 q).toInt ≤ n + 1 ∧ (4 * K + j ≤ q → (a47 q).toInt ≤ n)) →
    ∃ a' b' : Nat → Int32, f_x0_addPrices_j51 r a44 a45 ogn ogc x13 C v44 f x52 a47 = C (x13 + Int32.ofInt 1) a' ∧ f_m12_prices_j59 i30 b41 b56 b57 x36 R v44 g x60 b59 = R (x36 + Int32.ofInt 1) b' ∧ PQ (n + 1) a' b' := by
  have o1 := co1
  obtain ⟨_, h6, hs, _⟩ := hO
  obtain ⟨k1, k2, k3, k4⟩ := hs K hK
  intro m
  induction m with
  | zero =>
    intro f g j x52 x60 a47 b59 hx hy hm hf hg hP
    obtain ⟨f, rfl⟩ : ∃ w, f = w + 1 := ⟨f - 1, by omega⟩
    obtain ⟨g, rfl⟩ : ∃ w, g = w + 1 := ⟨g - 1, by omega⟩
    rw [S_x0_addPrices_j51, S_m12_prices_j59, nc hk, ← k2, if_pos (show x52.toInt ≥ (a44 K).toInt by omega), if_neg (show ¬ v44.toInt ≥ i30.toInt by omega), if_pos (show x60.toInt ≥ (a44 K).toInt by omega)]
    exact ⟨a47, b59, rfl, rfl, fun q hq => ⟨(hP q hq).1, (hP q hq).2.1, (hP q hq).2.2.1⟩⟩
  | succ m ih =>
    intro f g j x52 x60 a47 b59 hx hy hm hf hg hP
    obtain ⟨f, rfl⟩ : ∃ w, f = w + 1 := ⟨f - 1, by omega⟩
    obtain ⟨g, rfl⟩ : ∃ w, g = w + 1 := ⟨g - 1, by omega⟩
    have hx1 := toInt_add hx co1 (by omega) (by omega)
    have hy1 := toInt_add hy co1 (by omega) (by omega)
    have e1 := (o_ix hk hx (by omega) (by omega)).1
    have e2 := (o_ix hk hy (by omega) (by omega)).2
    rw [S_x0_addPrices_j51, S_m12_prices_j59, nc hk, ← k2, if_neg (show ¬ x52.toInt ≥ (a44 K).toInt by omega), if_neg (show ¬ v44.toInt ≥ i30.toInt by omega), if_neg (show ¬ x60.toInt ≥ (a44 K).toInt by omega), e1, e2, hw, k4 j (by omega)]
    by_cases w : (b57 (4 * K + j)).toInt = (b41 x36.toNatClampNeg).toInt
    · rw [if_pos w, if_neg (fun z => z w)]
      refine ih f g (j + 1) (x52 + Int32.ofInt 1) (x60 + Int32.ofInt 1) a47 _ (by omega) (by omega) (by omega) (by omega) (by omega) ?_
      intro q hq
      obtain ⟨h1, h2, h3, h4⟩ := hP q hq
      refine ⟨?_, h2, h3, fun z => h4 (by omega)⟩
      unfold upd
      by_cases z : q = 4 * K + j
      · rw [if_pos z, add0, z]; rw [z] at h1; exact h1
      · rw [if_neg z]; exact h1
    · rw [if_neg w, if_pos w]
      obtain ⟨g1, g2, g3, g4⟩ := hP (4 * K + j) (by omega)
      have g4 := g4 (Nat.le_refl _)
      have ga := toInt_add (x := a47 (4 * K + j)) rfl c1 (by omega) (by omega)
      refine ih f g (j + 1) (x52 + Int32.ofInt 1) (x60 + Int32.ofInt 1) (upd a47 (4 * K + j) (a47 (4 * K + j) + 1)) (upd b59 (4 * K + j) (b59 (4 * K + j) + 1)) (by omega) (by omega) (by omega) (by omega) (by omega) (fun q hq => ?_)
      obtain ⟨h1, h2, h3, h4⟩ := hP q hq
      unfold upd
      by_cases z : q = 4 * K + j
      · rw [if_pos z, if_pos z]
        exact ⟨by rw [g1], by omega, by omega, fun y => absurd y (by omega)⟩
      · rw [if_neg z, if_neg z]
        exact ⟨h1, h2, h3, fun y => h4 (by omega)⟩
/-- the SLOTS of RENDERING r -/
theorem ps_loop {p0 x9 i10 : Int32} {N : Nat} {b28 b29 b33 b34 b36 b37 b60 : Nat → Int32} {og : Nat → Nat → Int32} {R : Int32 → (Nat → Int32) → (Nat → Int32) → (Nat → Int32) → (Nat → Int32) → (Nat → Int32) × (Nat → Int32) × (Nat → Int32) × (Nat → Int32)} (hO : RO i30 a43 a44 a45 i30 b55 b56 b57) (hN : RNC i10 og ogn ogc b33 b34 b36 b37 b38 b39 b40 b41 b42) (h10 : i10.toInt ≤ 200) (hr : p0.toInt = (r : Int)) (hr2 : (r : Int) < i10.toInt) (hT : ∀ i, i < ogn 4 r → (ogc 5 r i).toInt = 8 ∨ (ogc 5 r i).toInt < (ogn 3 r : Int)) (hNN : ogn 4 r = N) :
    ∀ (m f g s : Nat) (x13 x36 : Int32) (a47 b59 : Nat → Int32) (n : Int), x13.toInt = (s : Int) → x36.toInt = ((12 * r + s : Nat) : Int) → N = s + m → m < f → m < g → 0 ≤ n → n + m ≤ 1000 → PQ n a47 b59 →
    ∃ a' b' : Nat → Int32, f_x0_addPrices_j12 r i30 a43 a44 a45 ogn ogc (ogn 3 r) (ogc 3 r) f x13 a47 = a' ∧ f_m12_prices_j35 i30 b39 b40 b41 b42 b55 b56 b57 x9 R p0 b28 b29 b60 g x36 b59 = R (x9 + Int32.ofInt 1) b28 b29 b' b60 ∧ PQ (n + m) a' b' := by
  have o1 := co1
  obtain ⟨_, ⟨n1, n8, t1⟩, ⟨s1, s2, s3, s4⟩⟩ := hN r hr2
  have en : (Int32.ofNat (ogn 3 r)).toInt = (ogn 3 r : Int) := nI_toInt (by omega)
  have eN : (F_x7_slots r ogn).toInt = (N : Int) := by rw [E_x7_slots, hNN]; exact nI_toInt (by omega)
  have eN' : (Int32.ofNat (ogn 4 r)).toInt = (N : Int) := by rw [hNN]; exact nI_toInt (by omega)
  have e12 : (((12 : Int32) * p0) + (b40 p0.toNatClampNeg)).toInt = ((12 * r + N : Nat) : Int) := by
    have e1 := toInt_mul sc12 hr rfl (by omega) (by omega)
    have e2 := toInt_add e1 s1 (by omega) (by omega)
    rw [nc hr]; omega
  intro m
  induction m with
  | zero =>
    intro f g s x13 x36 a47 b59 n hx hy hm hf hg hn hn2 hP
    obtain ⟨f, rfl⟩ : ∃ w, f = w + 1 := ⟨f - 1, by omega⟩
    obtain ⟨g, rfl⟩ : ∃ w, g = w + 1 := ⟨g - 1, by omega⟩
    rw [S_x0_addPrices_j12, S_m12_prices_j35, eN, e12, if_pos (show x13.toInt ≥ (N : Int) by omega), if_pos (show x36.toInt ≥ ((12 * r + N : Nat) : Int) by omega)]
    exact ⟨a47, b59, rfl, rfl, PQ_mono hP (by omega)⟩
  | succ m ih =>
    intro f g s x13 x36 a47 b59 n hx hy hm hf hg hn hn2 hP
    obtain ⟨f, rfl⟩ : ∃ w, f = w + 1 := ⟨f - 1, by omega⟩
    obtain ⟨g, rfl⟩ : ∃ w, g = w + 1 := ⟨g - 1, by omega⟩
    have hx1 := toInt_add hx co1 (by omega) (by omega)
    have hy1 := toInt_add hy co1 (by omega) (by omega)
    have eT : F_x7_turnAt x13 r ogn ogc = ogc 5 r s := by rw [E_x7_turnAt, if_neg (by omega), if_neg (by omega), nc hx]
    have eW : F_x7_wordAt x13 r ogn ogc = ogc 4 r s := by rw [E_x7_wordAt, if_neg (by omega), if_neg (by omega), nc hx]
    obtain ⟨w1, w2, _, w4⟩ := s4 s (by omega)
    have next : ∀ a1 b1 : Nat → Int32, PQ (n + 1) a1 b1 → ∃ a' b' : Nat → Int32, f_x0_addPrices_j12 r i30 a43 a44 a45 ogn ogc (ogn 3 r) (ogc 3 r) f (x13 + Int32.ofInt 1) a1 = a' ∧ f_m12_prices_j35 i30 b39 b40 b41 b42 b55 b56 b57 x9 R p0 b28 b29 b60 g (x36 + Int32.ofInt 1) b1 = R (x9 + Int32.ofInt 1) b28 b29 b' b60 ∧ PQ (n + ((m + 1 : Nat) : Int)) a' b' := by
      intro a1 b1 h
      obtain ⟨a', b', e1, e2, e3⟩ := ih f g (s + 1) (x13 + Int32.ofInt 1) (x36 + Int32.ofInt 1) a1 b1 (n + 1) (by omega) (by omega) (by omega) (by omega) (by omega) (by omega) (by omega) h
      exact ⟨a', b', e1, e2, PQ_mono e3 (by omega)⟩
    rw [S_x0_addPrices_j12, S_m12_prices_j35, eN, e12, if_neg (show ¬ x13.toInt ≥ (N : Int) by omega), if_neg (show ¬ x36.toInt ≥ ((12 * r + N : Nat) : Int) by omega), eT, en, nc hy, ← w2, if_neg (show ¬ (ogc 5 r s).toInt < 0 by rw [w2]; omega)]
    rcases hT s (by omega) with h8 | hlt
    · rw [if_pos (show (ogc 5 r s).toInt ≥ (ogn 3 r : Int) by omega), if_neg (fun z => z h8), S_m12_prices_j90 (n_ := 4)]
      exact next a47 b59 (PQ_mono hP (by omega))
    · have h0 : 0 ≤ (ogc 5 r s).toInt := by rw [w2]; exact w4.1
      obtain ⟨q, hq⟩ : ∃ q : Nat, (ogc 5 r s).toInt = (q : Int) := ⟨(ogc 5 r s).toInt.toNat, by omega⟩
      have m1 := toInt_mul sc8 hr rfl (by omega) (by omega)
      have m2 := toInt_add m1 hq (by omega) (by omega)
      rw [if_neg (show ¬ (ogc 5 r s).toInt ≥ (ogn 3 r : Int) by omega), if_pos (show (ogc 5 r s).toInt ≠ 8 by omega), nc hq, nc (p := 8 * r + q) (by omega), ← t1 q (by omega)]
      rcases po_of (x := ogc 3 r q / (4 : Int32)) hO with ⟨K, p1, p2, p3⟩ | ⟨p1, p2⟩
      · rw [p3, if_pos (show (F_x0_placeOf (ogc 3 r q / (4 : Int32)) i30 a43).toInt ≠ -1 by omega)]
        have hb := (hO.2.2.1 K p1).2.2.1
        obtain ⟨S, hS⟩ : ∃ S : Nat, (a44 K).toInt = (S : Int) := ⟨(a44 K).toInt.toNat, by omega⟩
        obtain ⟨a', b', q1, q2, q3⟩ := pi_loop (s := s) (r := r) (ogn := ogn) (ogc := ogc) (b41 := b41) (x13 := x13) (x36 := x36) (C := f_x0_addPrices_j12 r i30 a43 a44 a45 ogn ogc (ogn 3 r) (ogc 3 r) f) (R := f_m12_prices_j35 i30 b39 b40 b41 b42 b55 b56 b57 x9 R p0 b28 b29 b60 g) hO p2 p1 hS (by rw [eW, nc hy, w1]) (n := n) ⟨hn, by omega⟩ S 5 5 0 0 0 a47 b59 c0 c0 (by omega) (by omega) (by omega) (fun q hq => ⟨(hP q hq).1, (hP q hq).2.1, by have := (hP q hq).2.2; omega, fun _ => (hP q hq).2.2⟩)
        rw [q1, q2]
        exact next a' b' q3
      · rw [p1, if_neg (show ¬ ((-1 : Int32).toInt ≠ -1) by decide), S_m12_prices_j59 (n_ := 4), if_pos (by omega)]
        exact next a47 b59 (PQ_mono hP (by omega))
/-! what is barred -/
def NZ (a : Nat → Int32) (k : Nat) : Prop := (a k).toInt ≠ 0
/-- OPTIONS of the K-th SIGN, S of them, that are not this WORD -/
def BO (opt : Nat → Int32) (K S : Nat) (w : Int) (q : Nat) : Prop := ∃ i, i < S ∧ q = 4 * K + i ∧ ¬ (opt q).toInt = w
theorem nar1 : (vp_nar .boolean (1 : Int32)).toInt ≠ 0 := by decide
theorem bo_x {u0 u1 : Int32} {K S : Nat} (hk : u0.toInt = (K : Int)) (hK : K < 6) (hS : (a44 K).toInt = (S : Int)) (h4 : S ≤ 4) : ∀ (m f j : Nat) (x2 : Int32) (a48 : Nat → Int32), x2.toInt = (j : Int) → S = j + m → m < f →
    ∃ a' : Nat → Int32, f_x0_barOthers_j1 u0 u1 a44 a45 f x2 a48 = a' ∧ ∀ q, NZ a' q ↔ NZ a48 q ∨ ∃ i, j ≤ i ∧ i < S ∧ q = 4 * K + i ∧ ¬ (a45 q).toInt = u1.toInt := by
  have o1 := co1
  intro m
  induction m with
  | zero =>
    intro f j x2 a48 hx hm hf
    obtain ⟨f, rfl⟩ : ∃ w, f = w + 1 := ⟨f - 1, by omega⟩
    rw [S_x0_barOthers_j1, nc hk, if_pos (by omega)]
    exact ⟨a48, rfl, fun q => ⟨Or.inl, fun z => by rcases z with z | ⟨i, i1, i2, _⟩; exact z; omega⟩⟩
  | succ m ih =>
    intro f j x2 a48 hx hm hf
    obtain ⟨f, rfl⟩ : ∃ w, f = w + 1 := ⟨f - 1, by omega⟩
    have hx1 := toInt_add hx co1 (by omega) (by omega)
    rw [S_x0_barOthers_j1, nc hk, if_neg (by omega), (o_ix hk hx hK (by omega)).1]
    by_cases w : (a45 (4 * K + j)).toInt = u1.toInt
    · rw [if_pos w]
      obtain ⟨a', r1, r2⟩ := ih f (j + 1) (x2 + Int32.ofInt 1) a48 (by omega) (by omega) (by omega)
      refine ⟨a', r1, fun q => ?_⟩
      rw [r2 q]
      constructor
      · rintro (z | ⟨i, i1, i2, i3, i4⟩)
        · exact Or.inl z
        · exact Or.inr ⟨i, by omega, i2, i3, i4⟩
      · rintro (z | ⟨i, i1, i2, i3, i4⟩)
        · exact Or.inl z
        · by_cases e : i = j
          · rw [i3, e] at i4; exact absurd w i4
          · exact Or.inr ⟨i, by omega, i2, i3, i4⟩
    · rw [if_neg w]
      obtain ⟨a', r1, r2⟩ := ih f (j + 1) (x2 + Int32.ofInt 1) (upd a48 (4 * K + j) (vp_nar .boolean (1 : Int32))) (by omega) (by omega) (by omega)
      refine ⟨a', r1, fun q => ?_⟩
      rw [r2 q]
      have eq : NZ (upd a48 (4 * K + j) (vp_nar .boolean (1 : Int32))) q ↔ NZ a48 q ∨ q = 4 * K + j := by
        unfold NZ upd
        by_cases z : q = 4 * K + j
        · rw [if_pos z]; exact ⟨fun _ => Or.inr z, fun _ => nar1⟩
        · rw [if_neg z]; exact ⟨Or.inl, fun y => by rcases y with y | y; exact y; exact absurd y z⟩
      rw [eq]
      constructor
      · rintro ((z | z) | ⟨i, i1, i2, i3, i4⟩)
        · exact Or.inl z
        · exact Or.inr ⟨j, Nat.le_refl _, by omega, z, by rw [z]; exact w⟩
        · exact Or.inr ⟨i, by omega, i2, i3, i4⟩
      · rintro (z | ⟨i, i1, i2, i3, i4⟩)
        · exact Or.inl (Or.inl z)
        · by_cases e : i = j
          · exact Or.inl (Or.inr (by rw [i3, e]))
          · exact Or.inr ⟨i, by omega, i2, i3, i4⟩
theorem bo_m {x2' x12 v26 : Int32} {K S : Nat} {d28 d29 : Nat → Int32} {W : Int} {R : Int32 → (Nat → Int32) → (Nat → Int32) → (Nat → Int32) → (Nat → Int32) × (Nat → Int32) × (Nat → Int32)} (hk : v26.toInt = (K : Int)) (hK : K < 6) (hS : (b56 K).toInt = (S : Int)) (h4 : S ≤ 4) (hW : (b22 x2'.toNatClampNeg).toInt = W) : ∀ (m f j : Nat) (x50 : Int32) (b60 : Nat → Int32), x50.toInt = (j : Int) → S = j + m → m < f →
    ∃ b' : Nat → Int32, f_m12_bars_j49 b22 b56 b57 x2' x12 R v26 d28 d29 f x50 b60 = R (x12 + Int32.ofInt 1) d28 d29 b' ∧ ∀ q, NZ b' q ↔ NZ b60 q ∨ ∃ i, j ≤ i ∧ i < S ∧ q = 4 * K + i ∧ ¬ (b57 q).toInt = W := by
  have o1 := co1
  intro m
  induction m with
  | zero =>
    intro f j x50 b60 hx hm hf
    obtain ⟨f, rfl⟩ : ∃ w, f = w + 1 := ⟨f - 1, by omega⟩
    rw [S_m12_bars_j49, nc hk, if_pos (by omega)]
    exact ⟨b60, rfl, fun q => ⟨Or.inl, fun z => by rcases z with z | ⟨i, i1, i2, _⟩; exact z; omega⟩⟩
  | succ m ih =>
    intro f j x50 b60 hx hm hf
    obtain ⟨f, rfl⟩ : ∃ w, f = w + 1 := ⟨f - 1, by omega⟩
    have hx1 := toInt_add hx co1 (by omega) (by omega)
    rw [S_m12_bars_j49, nc hk, if_neg (by omega), (o_ix hk hx hK (by omega)).2, hW]
    by_cases w : (b57 (4 * K + j)).toInt = W
    · rw [if_pos w]
      obtain ⟨b', r1, r2⟩ := ih f (j + 1) (x50 + Int32.ofInt 1) b60 (by omega) (by omega) (by omega)
      refine ⟨b', r1, fun q => ?_⟩
      rw [r2 q]
      constructor
      · rintro (z | ⟨i, i1, i2, i3, i4⟩)
        · exact Or.inl z
        · exact Or.inr ⟨i, by omega, i2, i3, i4⟩
      · rintro (z | ⟨i, i1, i2, i3, i4⟩)
        · exact Or.inl z
        · by_cases e : i = j
          · rw [i3, e] at i4; exact absurd w i4
          · exact Or.inr ⟨i, by omega, i2, i3, i4⟩
    · rw [if_neg w]
      obtain ⟨b', r1, r2⟩ := ih f (j + 1) (x50 + Int32.ofInt 1) (upd b60 (4 * K + j) (vp_nar .boolean (1 : Int32))) (by omega) (by omega) (by omega)
      refine ⟨b', r1, fun q => ?_⟩
      rw [r2 q]
      have eq : NZ (upd b60 (4 * K + j) (vp_nar .boolean (1 : Int32))) q ↔ NZ b60 q ∨ q = 4 * K + j := by
        unfold NZ upd
        by_cases z : q = 4 * K + j
        · rw [if_pos z]; exact ⟨fun _ => Or.inr z, fun _ => nar1⟩
        · rw [if_neg z]; exact ⟨Or.inl, fun y => by rcases y with y | y; exact y; exact absurd y z⟩
      rw [eq]
      constructor
      · rintro ((z | z) | ⟨i, i1, i2, i3, i4⟩)
        · exact Or.inl z
        · exact Or.inr ⟨j, Nat.le_refl _, by omega, z, by rw [z]; exact w⟩
        · exact Or.inr ⟨i, by omega, i2, i3, i4⟩
      · rintro (z | ⟨i, i1, i2, i3, i4⟩)
        · exact Or.inl (Or.inl z)
        · by_cases e : i = j
          · exact Or.inl (Or.inr (by rw [i3, e]))
          · exact Or.inr ⟨i, by omega, i2, i3, i4⟩
/-- what CLAUSE c bars -/
def BDC (i30 : Int32) (a43 a44 a45 b20 b22 : Nat → Int32) (c q : Nat) : Prop := ∃ K : Nat, (K : Int) < i30.toInt ∧ (F_x0_placeOf (b20 c) i30 a43).toInt = (K : Int) ∧ BO a45 K (a44 K).toInt.toNat (b22 c).toInt q
theorem CLR_w (hR : CLR a22 a23 a24 a25 b19 b20 b21 b22 c) (hk : (b19 c).toInt = 119) : a23 c = b20 c ∧ (a25 c).toInt = (b22 c).toInt := by
  exact ⟨eq_of_toInt (hR.2.2.2.2 hk).1, (hR.2.2.2.2 hk).2.1⟩
theorem xb45 {n2 : Nat} {f2 : Nat → Int32} {x21 : Int32} {i : Nat} {K : Int32 → Int32 → Int32 → (Nat → Int32) → Nat → (Nat → Int32) → R13b} (hn : n2 ≤ 8) (h9 : 0 ≤ i9.toInt ∧ i9.toInt ≤ 20) (hL : LAW i9 a18 a19 a20 a21 a22 a23 a24 a25 b15 b16 b17 b18 b19 b20 b21 b22) (hC : RCC i9 a21 a26 rtn rtc b23 b24 b25 b26) (hO : RO i30 a43 a44 a45 i30 b55 b56 b57) (hi : x21.toInt = (i : Int)) (hi9 : (i : Int) < i9.toInt) (hF : ifB v day i6 b2 b8 b15 b16 b17 i = true) :
    ∀ (m f j : Nat) (x46 i25 i26 : Int32) (a48 : Nat → Int32) (ptn : Nat) (ptc : Nat → Int32), x46.toInt = (j : Int) → (b18 i).toInt = (j : Int) + m → m < f →
    ∃ (j25 j26 : Int32) (a' : Nat → Int32) (qtn : Nat) (qtc : Nat → Int32), f_x0_barByClauses_j45 n2 f2 i9 i30 a21 a22 a23 a24 a25 a26 a43 a44 a45 rtn rtc v day (F_m12_companyOf v i6 b2 b8) (F_m12_tokensOf v day i6 i9 b2 b4 b8 b15 b16 b17 b18 b19 b20 b21) (b2 v.toNatClampNeg) (b3 v.toNatClampNeg) x21 K f x46 i25 i26 a48 ptn ptc = K (x21 + Int32.ofInt 1) j25 j26 a' qtn qtc ∧ ∀ q, NZ a' q ↔ NZ a48 q ∨ ∃ c, 16 * i + j ≤ c ∧ c < 16 * i + j + m ∧ (gB v day i6 i9 b2 b3 b4 b8 b15 b16 b17 b18 b19 b20 b21 b23 b24 b25 b26 n2 f2) c = true ∧ BDC i30 a43 a44 a45 b20 b22 c q := by
  have o1 := co1
  have c119 : (119 : Int32).toInt = 119 := by decide
  obtain ⟨_, _, _, l4, l5, _⟩ := hL i hi9
  have l4' : (a21 i).toInt = (b18 i).toInt := by rw [l4]
  have ecl : F_x2_clausesOf x21 i9 a21 = a21 i := by rw [E_x2_clausesOf, if_neg (by omega), if_neg (by omega), nc hi]
  intro m
  induction m with
  | zero =>
    intro f j x46 i25 i26 a48 ptn ptc hj hm hf
    obtain ⟨f, rfl⟩ : ∃ w, f = w + 1 := ⟨f - 1, by omega⟩
    rw [S_x0_barByClauses_j45, ecl, if_pos (by omega)]
    exact ⟨i25, i26, a48, ptn, ptc, rfl, fun q => ⟨Or.inl, fun z => by rcases z with z | ⟨c, k1, k2, _⟩; exact z; omega⟩⟩
  | succ m ih =>
    intro f j x46 i25 i26 a48 ptn ptc hj hm hf
    obtain ⟨f, rfl⟩ : ∃ w, f = w + 1 := ⟨f - 1, by omega⟩
    have hx1 := toInt_add hj co1 (by omega) (by omega)
    have hct := cl_t hi hj (by omega) (by omega)
    have hv1 : vld b18 (16 * i + j) = true := decide_eq_true (by rw [show (16 * i + j) / 16 = i by omega]; omega)
    have hR := CLR_at (a18 := a18) (a19 := a19) (a20 := a20) h9 hL (c := 16 * i + j) (by omega) hv1
    have eF : ifB v day i6 b2 b8 b15 b16 b17 ((16 * i + j) / 16) = true := by rw [show (16 * i + j) / 16 = i by omega]; exact hF
    have eof : F_x2_isOf (F_x2_clauseOf x21 x46) 119 a22 = if (b19 (16 * i + j)).toInt = 119 then 1 else 0 := by
      rw [E_x2_isOf, x_num hct (by omega), if_neg n10, nc hct, hR.1, c119]
      by_cases w : (b19 (16 * i + j)).toInt = 119
      · first
        | rw [if_pos w, if_pos w]
        | rw [if_neg (fun z => z w), if_pos w]
      · first
        | rw [if_neg w, if_neg w]
        | rw [if_pos w, if_neg w]
    -- nothing is barred by it
    have no : ∀ (y25 y26 : Int32) (qn : Nat) (qc : Nat → Int32), (∀ q, ¬ ((gB v day i6 i9 b2 b3 b4 b8 b15 b16 b17 b18 b19 b20 b21 b23 b24 b25 b26 n2 f2) (16 * i + j) = true ∧ BDC i30 a43 a44 a45 b20 b22 (16 * i + j) q)) → ∃ (j25 j26 : Int32) (a' : Nat → Int32) (qtn : Nat) (qtc : Nat → Int32), f_x0_barByClauses_j45 n2 f2 i9 i30 a21 a22 a23 a24 a25 a26 a43 a44 a45 rtn rtc v day (F_m12_companyOf v i6 b2 b8) (F_m12_tokensOf v day i6 i9 b2 b4 b8 b15 b16 b17 b18 b19 b20 b21) (b2 v.toNatClampNeg) (b3 v.toNatClampNeg) x21 K f (x46 + Int32.ofInt 1) y25 y26 a48 qn qc = K (x21 + Int32.ofInt 1) j25 j26 a' qtn qtc ∧ ∀ q, NZ a' q ↔ NZ a48 q ∨ ∃ c, 16 * i + j ≤ c ∧ c < 16 * i + j + (m + 1) ∧ (gB v day i6 i9 b2 b3 b4 b8 b15 b16 b17 b18 b19 b20 b21 b23 b24 b25 b26 n2 f2) c = true ∧ BDC i30 a43 a44 a45 b20 b22 c q := by
      intro y25 y26 qn qc hno
      obtain ⟨j25, j26, a', qtn, qtc, r1, r2⟩ := ih f (j + 1) (x46 + Int32.ofInt 1) y25 y26 a48 qn qc (by omega) (by omega) (by omega)
      refine ⟨j25, j26, a', qtn, qtc, r1, fun q => ?_⟩
      rw [r2 q]
      constructor
      · rintro (z | ⟨c, k1, k2, k3⟩)
        · exact Or.inl z
        · exact Or.inr ⟨c, by omega, by omega, k3⟩
      · rintro (z | ⟨c, k1, k2, k3⟩)
        · exact Or.inl z
        · by_cases e : c = 16 * i + j
          · rw [e] at k3; exact absurd k3 (hno q)
          · exact Or.inr ⟨c, by omega, by omega, k3⟩
    rw [S_x0_barByClauses_j45, ecl, if_neg (by omega), eof]
    by_cases k : (b19 (16 * i + j)).toInt = 119
    · obtain ⟨v1, v2⟩ := CLR_w hR k
      have esub : F_x2_subject (F_x2_clauseOf x21 x46) a23 = b20 (16 * i + j) := by
        rw [E_x2_subject, x_num hct (by omega), if_neg n10, nc hct, v1]
      have eval : (F_x2_value (F_x2_clauseOf x21 x46) a25).toInt = (b22 (16 * i + j)).toInt := by
        rw [E_x2_value, x_num hct (by omega), if_neg n10, nc hct, v2]
      rw [if_pos k, if_neg n10, esub, E_x0_barByClauses_j73]
      rcases po_of (x := b20 (16 * i + j)) hO with ⟨KK, p1, p2, _⟩ | ⟨p1, _⟩
      · rw [if_neg (show ¬ (F_x0_placeOf (b20 (16 * i + j)) i30 a43).toInt = -1 by omega)]
        have esp : F_x2_speaksOfAny (F_x2_clauseOf x21 x46) n2 f2 a23 a24 = if spB b19 b20 b21 f2 n2 0 (16 * i + j) = true then 1 else 0 := any_loop hct (by omega) hR k (by omega) n2 _ 0 0 c0 (by omega) (by omega)
        rw [esp]
        by_cases s : spB b19 b20 b21 f2 n2 0 (16 * i + j) = true
        · rw [if_pos s, if_neg n10]
          have ev := verdict_of (v := v) (d := day) (i6 := i6) (b2 := b2) (b3 := b3) (b4 := b4) (b8 := b8) (i := i) (i25 := i25) (i26 := i26) (ptn := ptn) (ptc := ptc) (b28 := z0) (b29 := z0) h9 hL hC hct hi9 (by omega) (by omega)
          rw [ev]
          by_cases wo : (F_m12_worth (F_x2_clauseOf x21 x46) v day i6 i9 b2 b3 b4 b8 b15 b16 b17 b18 b19 b20 b21 b23 b24 b25 b26 z0 z0).1.toInt = 1
          · have hg : (gB v day i6 i9 b2 b3 b4 b8 b15 b16 b17 b18 b19 b20 b21 b23 b24 b25 b26 n2 f2) (16 * i + j) = true := by
              unfold gB hwB
              rw [hv1, eF, decide_eq_true k, s, show woB v day i6 i9 b2 b3 b4 b8 b15 b16 b17 b18 b19 b20 b21 b23 b24 b25 b26 (16 * i + j) = true from decide_eq_true (by rw [← oN hct]; exact wo)]; rfl
            rw [if_neg (fun z => z wo)]
            obtain ⟨_, h6, hs, _⟩ := hO
            obtain ⟨_, _, k3, _⟩ := hs KK p1
            obtain ⟨a1, q1, q2⟩ := bo_x (u1 := F_x2_value (F_x2_clauseOf x21 x46) a25) (a44 := a44) (a45 := a45) (S := (a44 KK).toInt.toNat) p2 (by omega) (by omega) (by omega) (a44 KK).toInt.toNat 5 0 0 a48 c0 (by omega) (by omega)
            rw [E_x0_barOthers, q1]
            obtain ⟨j25, j26, a', qtn, qtc, r1, r2⟩ := ih f (j + 1) (x46 + Int32.ofInt 1) _ _ a1 _ _ (by omega) (by omega) (by omega)
            refine ⟨j25, j26, a', qtn, qtc, r1, fun q => ?_⟩
            rw [r2 q, q2 q, eval]
            constructor
            · rintro ((z | ⟨d, d1, d2, d3, d4⟩) | ⟨c, k1, k2, k3⟩)
              · exact Or.inl z
              · exact Or.inr ⟨16 * i + j, Nat.le_refl _, by omega, hg, KK, p1, p2, d, d2, d3, d4⟩
              · exact Or.inr ⟨c, by omega, by omega, k3⟩
            · rintro (z | ⟨c, k1, k2, k3, K', l1, l2, d, d2, d3, d4⟩)
              · exact Or.inl (Or.inl z)
              · by_cases e : c = 16 * i + j
                · rw [e] at l2 d4
                  have eK : K' = KK := by omega
                  rw [eK] at d2 d3
                  exact Or.inl (Or.inr ⟨d, Nat.zero_le _, d2, d3, d4⟩)
                · exact Or.inr ⟨c, by omega, by omega, k3, K', l1, l2, d, d2, d3, d4⟩
          · rw [if_pos wo]
            refine no _ _ _ _ (fun q z => ?_)
            have z1 := z.1
            unfold gB hwB at z1
            rw [hv1, eF, decide_eq_true k, s, show woB v day i6 i9 b2 b3 b4 b8 b15 b16 b17 b18 b19 b20 b21 b23 b24 b25 b26 (16 * i + j) = false from decide_eq_false (by rw [← oN hct]; exact wo)] at z1
            cases z1
        · rw [if_neg s, if_pos y00]
          refine no _ _ _ _ (fun q z => ?_)
          have z1 := z.1
          unfold gB at z1
          rw [Bool.and_eq_true] at z1
          exact s z1.2
      · rw [p1, if_pos (show (-1 : Int32).toInt = -1 by decide)]
        refine no _ _ _ _ (fun q z => ?_)
        obtain ⟨K', l1, l2, _⟩ := z.2
        rw [p1] at l2
        have : (-1 : Int32).toInt = -1 := by decide
        omega
    · rw [if_neg k, if_pos y00, E_x0_barByClauses_j73, if_pos (show (-1 : Int32).toInt = -1 by decide)]
      refine no _ _ _ _ (fun q z => ?_)
      have z1 := z.1
      unfold gB hwB at z1
      rw [decide_eq_false k] at z1
      cases h1 : (vld b18 (16 * i + j) && ifB v day i6 b2 b8 b15 b16 b17 ((16 * i + j) / 16)) <;> rw [h1] at z1 <;> cases z1
theorem xb20 {n2 : Nat} {f2 : Nat → Int32} {z20 z21 : Int32} (hn : n2 ≤ 8) (h9 : 0 ≤ i9.toInt ∧ i9.toInt ≤ 20) (hL : LAW i9 a18 a19 a20 a21 a22 a23 a24 a25 b15 b16 b17 b18 b19 b20 b21 b22) (hC : RCC i9 a21 a26 rtn rtc b23 b24 b25 b26) (hO : RO i30 a43 a44 a45 i30 b55 b56 b57) (hF : FRC v day i6 i9 b2 b8 b15 b16 b17 z20) :
    ∀ (m f i : Nat) (x21 i25 i26 : Int32) (a48 : Nat → Int32) (ptn : Nat) (ptc : Nat → Int32), x21.toInt = (i : Int) → i9.toInt = (i : Int) + m → m < f →
    ∃ (j17 j18 j19 j20 j21 j22 j23 j24 j25 j26 : Int32) (a' : Nat → Int32) (qtn : Nat) (qtc : Nat → Int32), f_x0_barByClauses_j20 n2 f2 i9 i30 a21 a22 a23 a24 a25 a26 a43 a44 a45 rtn rtc v day (F_m12_companyOf v i6 b2 b8) z20 z21 (F_m12_tokensOf v day i6 i9 b2 b4 b8 b15 b16 b17 b18 b19 b20 b21) (b2 v.toNatClampNeg) (b3 v.toNatClampNeg) f x21 i25 i26 a48 ptn ptc = (j17, j18, j19, j20, j21, j22, j23, j24, j25, j26, a', qtn, qtc) ∧ ∀ q, NZ a' q ↔ NZ a48 q ∨ ∃ c, 16 * i ≤ c ∧ c < 16 * i + 16 * m ∧ (gB v day i6 i9 b2 b3 b4 b8 b15 b16 b17 b18 b19 b20 b21 b23 b24 b25 b26 n2 f2) c = true ∧ BDC i30 a43 a44 a45 b20 b22 c q := by
  have o1 := co1
  intro m
  induction m with
  | zero =>
    intro f i x21 i25 i26 a48 ptn ptc hx hm hf
    obtain ⟨f, rfl⟩ : ∃ w, f = w + 1 := ⟨f - 1, by omega⟩
    rw [S_x0_barByClauses_j20, if_pos (show x21.toInt ≥ (F_x2_size i9).toInt by show x21.toInt ≥ i9.toInt; omega)]
    exact ⟨_, _, _, _, _, _, _, _, i25, i26, a48, ptn, ptc, rfl, fun q => ⟨Or.inl, fun z => by rcases z with z | ⟨c, k1, k2, _⟩; exact z; omega⟩⟩
  | succ m ih =>
    intro f i x21 i25 i26 a48 ptn ptc hx hm hf
    obtain ⟨f, rfl⟩ : ∃ w, f = w + 1 := ⟨f - 1, by omega⟩
    have hx1 := toInt_add hx co1 (by omega) (by omega)
    obtain ⟨_, _, _, l4, l5, _⟩ := hL i (by omega)
    obtain ⟨k, hk⟩ : ∃ k : Nat, (b18 i).toInt = (k : Int) := ⟨(b18 i).toInt.toNat, by omega⟩
    rw [S_x0_barByClauses_j20, if_neg (show ¬ x21.toInt ≥ (F_x2_size i9).toInt by show ¬ x21.toInt ≥ i9.toInt; omega)]
    have einf : (F_x6_isInForce x21 z20).toInt ≠ 0 ↔ ifB v day i6 b2 b8 b15 b16 b17 i = true := by
      have e1 : ifB v day i6 b2 b8 b15 b16 b17 i = true ↔ (F_m12_isInForce x21 v day i6 b2 b8 b15 b16 b17).toInt ≠ 0 := by
        unfold ifB; rw [← oN hx]; exact decide_eq_true_iff
      rw [e1]
      exact frc_at hF h9.2 (by omega) (by omega)
    by_cases w : ifB v day i6 b2 b8 b15 b16 b17 i = true
    · rw [if_pos (einf.mpr w)]
      obtain ⟨j25, j26, a1, qtn, qtc, r1, r2⟩ := xb45 (K := f_x0_barByClauses_j20 n2 f2 i9 i30 a21 a22 a23 a24 a25 a26 a43 a44 a45 rtn rtc v day (F_m12_companyOf v i6 b2 b8) z20 z21 (F_m12_tokensOf v day i6 i9 b2 b4 b8 b15 b16 b17 b18 b19 b20 b21) (b2 v.toNatClampNeg) (b3 v.toNatClampNeg) f) hn h9 hL hC hO hx (by omega) w k 17 0 0 i25 i26 a48 ptn ptc c0 (by omega) (by omega)
      obtain ⟨y17, y18, y19, y20, y21, y22, y23, y24, p25, p26, a', stn, stc, s1, s2⟩ := ih f (i + 1) (x21 + Int32.ofInt 1) j25 j26 a1 qtn qtc (by omega) (by omega) (by omega)
      refine ⟨y17, y18, y19, y20, y21, y22, y23, y24, p25, p26, a', stn, stc, r1.trans s1, fun q => ?_⟩
      rw [s2 q, r2 q]
      constructor
      · rintro ((z | ⟨c, k1, k2, k3⟩) | ⟨c, k1, k2, k3⟩)
        · exact Or.inl z
        · exact Or.inr ⟨c, by omega, by omega, k3⟩
        · exact Or.inr ⟨c, by omega, by omega, k3⟩
      · rintro (z | ⟨c, k1, k2, k3⟩)
        · exact Or.inl (Or.inl z)
        · by_cases e : c < 16 * i + 0 + k
          · exact Or.inl (Or.inr ⟨c, by omega, e, k3⟩)
          · by_cases e2 : c < 16 * (i + 1)
            · have hg := k3.1
              rw [gB_not (Or.inl (decide_eq_false (by rw [show c / 16 = i by omega]; omega)))] at hg
              cases hg
            · exact Or.inr ⟨c, by omega, by omega, k3⟩
    · rw [if_neg (fun z => w (einf.mp z))]
      have w' : ifB v day i6 b2 b8 b15 b16 b17 i = false := by cases h : ifB v day i6 b2 b8 b15 b16 b17 i with
        | true => exact absurd h w
        | false => rfl
      obtain ⟨y17, y18, y19, y20, y21, y22, y23, y24, p25, p26, a', stn, stc, s1, s2⟩ := ih f (i + 1) (x21 + Int32.ofInt 1) i25 i26 a48 ptn ptc (by omega) (by omega) (by omega)
      refine ⟨y17, y18, y19, y20, y21, y22, y23, y24, p25, p26, a', stn, stc, s1, fun q => ?_⟩
      rw [s2 q]
      constructor
      · rintro (z | ⟨c, k1, k2, k3⟩)
        · exact Or.inl z
        · exact Or.inr ⟨c, by omega, by omega, k3⟩
      · rintro (z | ⟨c, k1, k2, k3⟩)
        · exact Or.inl z
        · by_cases e2 : c < 16 * (i + 1)
          · have hg := k3.1
            rw [gB_not (Or.inr (by rw [show c / 16 = i by omega]; exact w'))] at hg
            cases hg
          · exact Or.inr ⟨c, by omega, by omega, k3⟩
/-! the reference -/
theorem mt_sign {x : Int32} (h : mtB b19 b20 b21 c x = true) (hc : c < 1000) : x / (4 : Int32) = b20 c := by
  have h := of_decide_eq_true h
  rw [E_m12_isMeant, show (Int32.ofNat c).toNatClampNeg = c from nc (nI_toInt (by omega))] at h
  by_cases w : (b19 c).toInt ≠ 119
  · rw [if_pos w] at h; exact absurd c0 h
  · rw [if_neg w] at h
    by_cases w2 : (x / (4 : Int32)).toInt ≠ (b20 c).toInt
    · rw [if_pos w2] at h; exact absurd c0 h
    · exact eq_of_toInt (by omega)
theorem spB_ex {tok : Nat → Int32} : ∀ (m k : Nat), spB b19 b20 b21 tok m k c = true → ∃ q, k ≤ q ∧ q < k + m ∧ mtB b19 b20 b21 c (tok q) = true := by
  intro m
  induction m with
  | zero => intro k h; cases h
  | succ m ih =>
    intro k h
    have h : (mtB b19 b20 b21 c (tok k) || spB b19 b20 b21 tok m (k + 1) c) = true := h
    rw [Bool.or_eq_true] at h
    rcases h with h | h
    · exact ⟨k, Nat.le_refl _, by omega, h⟩
    · obtain ⟨q, q1, q2, q3⟩ := ih (k + 1) h
      exact ⟨q, by omega, by omega, q3⟩
theorem mb11 {p1 x2 : Int32} {n : Nat} {f32 : Nat → Int32} {K : Int32 → (Nat → Int32) → (Nat → Int32) → (Nat → Int32) → (Nat → Int32) × (Nat → Int32) × (Nat → Int32)} (h9 : 0 ≤ i9.toInt ∧ i9.toInt ≤ 20) (hL : LAW i9 a18 a19 a20 a21 a22 a23 a24 a25 b15 b16 b17 b18 b19 b20 b21 b22) (hC : RCC i9 a21 a26 rtn rtc b23 b24 b25 b26) (hO : RO i30 a43 a44 a45 i30 b55 b56 b57) (hc : x2.toInt = (c : Int)) (hc9 : (c : Int) < 16 * i9.toInt) (hn : (b38 p1.toNatClampNeg).toInt = (n : Int)) (hn8 : n ≤ 8)
    (htok : ∀ (t : Nat) (x : Int32), x.toInt = (t : Int) → t < n → b39 (((8 : Int32) * p1) + x).toNatClampNeg = f32 t) :
    ∀ (m f t : Nat) (x12 : Int32) (b28 b29 b60 : Nat → Int32), x12.toInt = (t : Int) → n = t + m → m < f →
    ∃ d28 d29 b' : Nat → Int32, f_m12_bars_j11 v p1 day i6 i9 i30 b2 b3 b4 b8 b15 b16 b17 b18 b19 b20 b21 b22 b23 b24 b25 b26 b38 b39 b55 b56 b57 x2 K f x12 b28 b29 b60 = K (x2 + Int32.ofInt 1) d28 d29 b' ∧ ∀ q, NZ b' q ↔ NZ b60 q ∨ (hwB 119 v day i6 i9 b2 b3 b4 b8 b15 b16 b17 b18 b19 b20 b21 b23 b24 b25 b26 c = true ∧ (∃ u, t ≤ u ∧ u < t + m ∧ mtB b19 b20 b21 c (f32 u) = true) ∧ BDC i30 a43 a44 a45 b20 b22 c q) := by
  have o1 := co1
  have h6' := hO.2.1
  intro m
  induction m with
  | zero =>
    intro f t x12 b28 b29 b60 hx hm hf
    obtain ⟨f, rfl⟩ : ∃ w, f = w + 1 := ⟨f - 1, by omega⟩
    rw [S_m12_bars_j11, if_pos (by omega)]
    exact ⟨b28, b29, b60, rfl, fun q => ⟨Or.inl, fun z => by rcases z with z | ⟨_, ⟨u, u1, u2, _⟩, _⟩; exact z; omega⟩⟩
  | succ m ih =>
    intro f t x12 b28 b29 b60 hx hm hf
    obtain ⟨f, rfl⟩ : ∃ w, f = w + 1 := ⟨f - 1, by omega⟩
    have hx1 := toInt_add hx co1 (by omega) (by omega)
    have no : ∀ (c28 c29 : Nat → Int32), (∀ q, ¬ (hwB 119 v day i6 i9 b2 b3 b4 b8 b15 b16 b17 b18 b19 b20 b21 b23 b24 b25 b26 c = true ∧ mtB b19 b20 b21 c (f32 t) = true ∧ BDC i30 a43 a44 a45 b20 b22 c q)) → ∃ d28 d29 b' : Nat → Int32, f_m12_bars_j11 v p1 day i6 i9 i30 b2 b3 b4 b8 b15 b16 b17 b18 b19 b20 b21 b22 b23 b24 b25 b26 b38 b39 b55 b56 b57 x2 K f (x12 + Int32.ofInt 1) c28 c29 b60 = K (x2 + Int32.ofInt 1) d28 d29 b' ∧ ∀ q, NZ b' q ↔ NZ b60 q ∨ (hwB 119 v day i6 i9 b2 b3 b4 b8 b15 b16 b17 b18 b19 b20 b21 b23 b24 b25 b26 c = true ∧ (∃ u, t ≤ u ∧ u < t + (m + 1) ∧ mtB b19 b20 b21 c (f32 u) = true) ∧ BDC i30 a43 a44 a45 b20 b22 c q) := by
      intro c28 c29 hno
      obtain ⟨d28, d29, b', r1, r2⟩ := ih f (t + 1) (x12 + Int32.ofInt 1) c28 c29 b60 (by omega) (by omega) (by omega)
      refine ⟨d28, d29, b', r1, fun q => ?_⟩
      rw [r2 q]
      constructor
      · rintro (z | ⟨y1, ⟨u, u1, u2, u3⟩, y2⟩)
        · exact Or.inl z
        · exact Or.inr ⟨y1, ⟨u, by omega, by omega, u3⟩, y2⟩
      · rintro (z | ⟨y1, ⟨u, u1, u2, u3⟩, y2⟩)
        · exact Or.inl z
        · by_cases e : u = t
          · rw [e] at u3; exact absurd ⟨y1, u3, y2⟩ (hno q)
          · exact Or.inr ⟨y1, ⟨u, by omega, by omega, u3⟩, y2⟩
    rw [S_m12_bars_j11, if_neg (by omega), htok t x12 hx (by omega)]
    rcases po_of (x := f32 t / (4 : Int32)) hO with ⟨KK, p1', p2, p3⟩ | ⟨p1', p2⟩
    · rw [p3, if_neg (show ¬ (F_x0_placeOf (f32 t / (4 : Int32)) i30 a43).toInt = i30.toInt by omega)]
      have A := asked_of (v := v) (day := day) (i6 := i6) (b2 := b2) (b3 := b3) (b4 := b4) (b8 := b8) (x := f32 t) h9 hL hC hc hc9 b28 b29
      rw [A]
      by_cases w : hwB 119 v day i6 i9 b2 b3 b4 b8 b15 b16 b17 b18 b19 b20 b21 b23 b24 b25 b26 c = true ∧ mtB b19 b20 b21 c (f32 t) = true
      · rw [if_pos w, if_pos (show (1 : Int32).toInt ≠ 0 by decide)]
        obtain ⟨_, _, hs, _⟩ := hO
        obtain ⟨_, k2, k3, k4⟩ := hs KK p1'
        have esg := mt_sign w.2 (by omega)
        obtain ⟨b1, q1, q2⟩ := bo_m (x2' := x2) (x12 := x12) (v26 := F_x0_placeOf (f32 t / (4 : Int32)) i30 a43) (b56 := b56) (b57 := b57) (b22 := b22) (K := KK) (S := (a44 KK).toInt.toNat) (d28 := (F_m12_isAsked x2 v (f32 t) day i6 i9 b2 b3 b4 b8 b15 b16 b17 b18 b19 b20 b21 b23 b24 b25 b26 b28 b29).2.1) (d29 := (F_m12_isAsked x2 v (f32 t) day i6 i9 b2 b3 b4 b8 b15 b16 b17 b18 b19 b20 b21 b23 b24 b25 b26 b28 b29).2.2) (R := f_m12_bars_j11 v p1 day i6 i9 i30 b2 b3 b4 b8 b15 b16 b17 b18 b19 b20 b21 b22 b23 b24 b25 b26 b38 b39 b55 b56 b57 x2 K f) p2 (by omega) (by rw [← k2]; omega) (by omega) (show (b22 x2.toNatClampNeg).toInt = (b22 c).toInt by rw [nc hc]) (a44 KK).toInt.toNat 5 0 0 b60 c0 (by omega) (by omega)
        rw [q1]
        obtain ⟨d28, d29, b', r1, r2⟩ := ih f (t + 1) (x12 + Int32.ofInt 1) _ _ b1 (by omega) (by omega) (by omega)
        refine ⟨d28, d29, b', r1, fun q => ?_⟩
        rw [r2 q, q2 q]
        have opt : ∀ d, d < (a44 KK).toInt.toNat → a45 (4 * KK + d) = b57 (4 * KK + d) := fun d hd => k4 d (by omega)
        constructor
        · rintro ((z | ⟨d, d1, d2, d3, d4⟩) | ⟨y1, ⟨u, u1, u2, u3⟩, y2⟩)
          · exact Or.inl z
          · exact Or.inr ⟨w.1, ⟨t, Nat.le_refl _, by omega, w.2⟩, KK, p1', by rw [← esg]; exact p2, d, d2, d3, by rw [d3, opt d d2, ← d3]; exact d4⟩
          · exact Or.inr ⟨y1, ⟨u, by omega, by omega, u3⟩, y2⟩
        · rintro (z | ⟨y1, ⟨u, u1, u2, u3⟩, y2⟩)
          · exact Or.inl (Or.inl z)
          · obtain ⟨K', l1, l2, d, d2, d3, d4⟩ := y2
            rw [← esg] at l2
            have eK : K' = KK := by omega
            rw [eK] at d2 d3
            exact Or.inl (Or.inr ⟨d, Nat.zero_le _, d2, d3, by rw [d3, ← opt d d2, ← d3]; exact d4⟩)
      · rw [if_neg w, if_neg (show ¬ ((0 : Int32).toInt ≠ 0) by decide)]
        exact no _ _ (fun q z => w ⟨z.1, z.2.1⟩)
    · rw [if_pos p2]
      refine no _ _ (fun q z => ?_)
      have esg := mt_sign z.2.1 (by omega)
      obtain ⟨K', l1, l2, _⟩ := z.2.2
      rw [← esg, p1'] at l2
      have : (-1 : Int32).toInt = -1 := by decide
      omega
theorem mb1 {p1 : Int32} {n : Nat} {f32 : Nat → Int32} (h9 : 0 ≤ i9.toInt ∧ i9.toInt ≤ 20) (hL : LAW i9 a18 a19 a20 a21 a22 a23 a24 a25 b15 b16 b17 b18 b19 b20 b21 b22) (hC : RCC i9 a21 a26 rtn rtc b23 b24 b25 b26) (hO : RO i30 a43 a44 a45 i30 b55 b56 b57) (hn : (b38 p1.toNatClampNeg).toInt = (n : Int)) (hn8 : n ≤ 8)
    (htok : ∀ (t : Nat) (x : Int32), x.toInt = (t : Int) → t < n → b39 (((8 : Int32) * p1) + x).toNatClampNeg = f32 t) :
    ∀ (m f c : Nat) (x2 : Int32) (b28 b29 b60 : Nat → Int32), x2.toInt = (c : Int) → 16 * i9.toInt = (c : Int) + m → m < f →
    ∃ d28 d29 b' : Nat → Int32, f_m12_bars_j1 v p1 day i6 i9 i30 b2 b3 b4 b8 b15 b16 b17 b18 b19 b20 b21 b22 b23 b24 b25 b26 b38 b39 b55 b56 b57 f x2 b28 b29 b60 = (d28, d29, b') ∧ ∀ q, NZ b' q ↔ NZ b60 q ∨ ∃ u, c ≤ u ∧ u < c + m ∧ gB v day i6 i9 b2 b3 b4 b8 b15 b16 b17 b18 b19 b20 b21 b23 b24 b25 b26 n f32 u = true ∧ BDC i30 a43 a44 a45 b20 b22 u q := by
  have e16 : ((16 : Int32) * i9).toInt = 16 * i9.toInt := toInt_mul c16i rfl rfl (by omega) (by omega)
  have o1 := co1
  intro m
  induction m with
  | zero =>
    intro f c x2 b28 b29 b60 hx hm hf
    obtain ⟨f, rfl⟩ : ∃ w, f = w + 1 := ⟨f - 1, by omega⟩
    rw [S_m12_bars_j1, if_pos (by omega)]
    exact ⟨b28, b29, b60, rfl, fun q => ⟨Or.inl, fun z => by rcases z with z | ⟨u, u1, u2, _⟩; exact z; omega⟩⟩
  | succ m ih =>
    intro f c x2 b28 b29 b60 hx hm hf
    obtain ⟨f, rfl⟩ : ∃ w, f = w + 1 := ⟨f - 1, by omega⟩
    have hx1 := toInt_add hx co1 (by omega) (by omega)
    rw [S_m12_bars_j1, if_neg (by omega)]
    obtain ⟨d28, d29, b1, r1, r2⟩ := mb11 (p1 := p1) (c := c) (n := n) (f32 := f32) (K := f_m12_bars_j1 v p1 day i6 i9 i30 b2 b3 b4 b8 b15 b16 b17 b18 b19 b20 b21 b22 b23 b24 b25 b26 b38 b39 b55 b56 b57 f) h9 hL hC hO hx (by omega) hn hn8 htok n 9 0 0 b28 b29 b60 c0 (by omega) (by omega)
    rw [r1]
    obtain ⟨e28, e29, b', s1, s2⟩ := ih f (c + 1) (x2 + Int32.ofInt 1) d28 d29 b1 (by omega) (by omega) (by omega)
    refine ⟨e28, e29, b', s1, fun q => ?_⟩
    rw [s2 q, r2 q]
    constructor
    · rintro ((z | ⟨y1, ⟨u, u1, u2, u3⟩, y2⟩) | ⟨u, u1, u2, u3⟩)
      · exact Or.inl z
      · refine Or.inr ⟨c, Nat.le_refl _, by omega, ?_, y2⟩
        unfold gB
        rw [y1, spB_y n 0 u (Nat.zero_le _) (by omega) u3]; rfl
      · exact Or.inr ⟨u, by omega, by omega, u3⟩
    · rintro (z | ⟨u, u1, u2, u3, u4⟩)
      · exact Or.inl (Or.inl z)
      · by_cases e : u = c
        · rw [e] at u3 u4
          unfold gB at u3
          rw [Bool.and_eq_true] at u3
          obtain ⟨y, y1, y2, y3⟩ := spB_ex n 0 u3.2
          exact Or.inl (Or.inr ⟨u3.1, ⟨y, y1, y2, y3⟩, u4⟩)
        · exact Or.inr ⟨u, by omega, by omega, u3, u4⟩
end PRC
