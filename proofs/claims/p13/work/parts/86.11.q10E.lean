/-! whole texts of RULES: both readers come to the same -/
def CLR (a22 a23 a24 a25 b19 b20 b21 b22 : Nat → Int32) (c : Nat) : Prop :=
  (a22 c).toInt = (b19 c).toInt ∧
  ((b19 c).toInt = 107 → (a23 c).toInt = 0 ∧ (0 ≤ (b20 c).toInt ∧ (b20 c).toInt ≤ 2) ∧ (0 ≤ (b21 c).toInt ∧ (b21 c).toInt ≤ 2) ∧ (0 ≤ (b22 c).toInt ∧ (b22 c).toInt ≤ 2) ∧ (a25 c).toInt = 16 * (b20 c).toInt + 4 * (b21 c).toInt + (b22 c).toInt) ∧
  ((b19 c).toInt = 118 → (a23 c).toInt = (b20 c).toInt ∧ (0 ≤ (b20 c).toInt ∧ (b20 c).toInt ≤ 1) ∧ (a25 c).toInt = (b21 c).toInt ∧ 0 ≤ (b21 c).toInt) ∧
  ((b19 c).toInt = 111 → (a23 c).toInt = 0 ∧ (a25 c).toInt = (b20 c).toInt) ∧
  ((b19 c).toInt = 119 → (a23 c).toInt = (b20 c).toInt ∧ (a25 c).toInt = (b22 c).toInt ∧ (((a24 c).toInt = 4 ∧ (b21 c).toInt = -1) ∨ ((a24 c).toInt = (b21 c).toInt ∧ 0 ≤ (b21 c).toInt ∧ (b21 c).toInt ≤ 3)))
theorem spR_in {T : Nat → Int} {p : Nat} (h : (spR T p).1 = 0) : (48 ≤ T p ∧ T p ≤ 50) ∧ (48 ≤ T (p + 1) ∧ T (p + 1) ≤ 50) ∧ (48 ≤ T (p + 2) ∧ T (p + 2) ≤ 50) := by
  unfold spR at h
  by_cases h1 : 48 ≤ T p ∧ T p ≤ 50
  · rw [if_neg (fun z => z h1)] at h
    by_cases h2 : 48 ≤ T (p + 1) ∧ T (p + 1) ≤ 50
    · rw [if_neg (fun z => z h2)] at h
      by_cases h3 : T (p + 1) = T p
      · rw [if_pos h3] at h
        exact absurd (show -6000 - ((p + 1 : Nat) : Int) = 0 from h) (by omega)
      · rw [if_neg h3] at h
        by_cases h4 : 48 ≤ T (p + 2) ∧ T (p + 2) ≤ 50
        · exact ⟨h1, h2, h4⟩
        · rw [if_pos h4] at h
          exact absurd (show -1000 - ((p + 2 : Nat) : Int) = 0 from h) (by omega)
    · rw [if_pos h2] at h
      exact absurd (show -1000 - ((p + 1 : Nat) : Int) = 0 from h) (by omega)
  · rw [if_pos h1] at h
    exact absurd (show -1000 - (p : Int) = 0 from h) (by omega)
theorem spH_in {T : Nat → Int} {p : Nat} (h : (spH T p).1 = 0) : 48 ≤ T p ∧ T p ≤ 49 := by
  unfold spH at h
  by_cases h1 : 48 ≤ T p ∧ T p ≤ 49
  · exact h1
  · rw [if_pos h1] at h
    exact absurd (show -1000 - (p : Int) = 0 from h) (by omega)
theorem spH_hun {T : Nat → Int} {n p : Nat} (hT : TXT T n) (h : (spH T (p + 1)).1 = 0) : 0 ≤ (spN T 100 (p + 3)).2.2 := by
  unfold spH at h
  by_cases h1 : 48 ≤ T (p + 1) ∧ T (p + 1) ≤ 49
  · rw [if_neg (fun z => z h1)] at h
    by_cases h2 : T (p + 1 + 1) ≠ 46
    · rw [if_pos h2] at h
      exact absurd (show -1000 - ((p + 1 + 1 : Nat) : Int) = 0 from h) (by omega)
    · rw [if_neg h2] at h
      have hp := T_in hT (p := p + 1 + 1) (by omega)
      exact (spN_at hT (show p + 3 ≤ n by omega) (show (spN T 100 (p + 3)).1 = 0 from h)).2.2.1
  · rw [if_pos h1] at h
    exact absurd (show -1000 - ((p + 1 : Nat) : Int) = 0 from h) (by omega)
theorem spW_in {T : Nat → Int} {n p : Nat} (hT : TXT T n) (hp : p ≤ n) (h : (spW T p).1 = 0) : T ((spN T 39 p).2.1 + 1) = 42 ∨ (48 ≤ T ((spN T 39 p).2.1 + 1) ∧ T ((spN T 39 p).2.1 + 1) ≤ 51) := by
  unfold spW at h
  rcases spO_ok (most := 39) hT hp with ⟨h1, _, _⟩ | h1
  · rw [seq_y h1] at h
    have h : (spW2 T (spN T 39 p).2.1).1 = 0 := h
    generalize (spN T 39 p).2.1 = q at h
    unfold spW2 at h
    by_cases g1 : T q ≠ 46
    · rw [if_pos g1] at h
      exact absurd (show -1000 - (q : Int) = 0 from h) (by omega)
    · rw [if_neg g1] at h
      by_cases g2 : T (q + 1) = 42 ∨ (48 ≤ T (q + 1) ∧ T (q + 1) ≤ 51)
      · exact g2
      · rw [if_pos g2] at h
        exact absurd (show -1000 - ((q + 1 : Nat) : Int) = 0 from h) (by omega)
  · rw [seq_n h1.1] at h; omega
theorem seq_0 {r : Int × Nat} {f : Nat → Int × Nat} (h : (seq r f).1 = 0) : r.1 = 0 := by
  by_cases g : r.1 = 0
  · exact g
  · unfold seq at h; rw [if_pos g] at h; exact h
theorem CLR_of {T : Nat → Int} {n p j c : Nat} {a22 a23 a24 a25 b19 b20 b21 b22 : Nat → Int32} (hT : TXT T n) (hp : p ≤ n) (h : (spCl T j p).1 = 0) (x2 : (a22 c).toInt = T p) (x3 : (a23 c).toInt = dS T p) (x4 : (a24 c).toInt = dF T p) (x5 : (a25 c).toInt = dV T p) (y9 : (b19 c).toInt = T p) (yd : MD T p c b20 b21 b22) : CLR a22 a23 a24 a25 b19 b20 b21 b22 c := by
  unfold spCl at h
  by_cases hk : T p = 119 ∨ T p = 115 ∨ T p = 107 ∨ T p = 118 ∨ T p = 111
  · rw [if_pos hk] at h
    have hpn := T_in hT (p := p) (by omega)
    by_cases hj : 16 ≤ j
    · rw [if_pos hj] at h
      exact absurd (show -4000 - (p : Int) = 0 from h) (by omega)
    · rw [if_neg hj] at h
      unfold spK at h
      obtain ⟨d1, d2, d3, d4⟩ := yd
      refine ⟨by omega, fun k => ?_, fun k => ?_, fun k => ?_, fun k => ?_⟩
      · have k' : T p = 107 := by omega
        rw [if_neg (by omega), if_neg (by omega), if_pos k'] at h
        have i := spR_in h
        have i4 : T (p + 2) = T (p + 1 + 1) := rfl
        have i5 : T (p + 3) = T (p + 1 + 2) := rfl
        obtain ⟨e1, e2, e3⟩ := d2 k'
        unfold dS at x3; rw [if_neg (by omega), if_neg (by omega)] at x3
        unfold dV at x5; rw [if_neg (by omega), if_pos k'] at x5
        refine ⟨x3, by omega, by omega, ?_, ?_⟩
        · omega
        · omega
      · have k' : T p = 118 := by omega
        rw [if_neg (by omega), if_neg (by omega), if_neg (by omega), if_pos k'] at h
        have i := spH_in h
        have ih := spH_hun hT h
        obtain ⟨e1, e2⟩ := d3 k'
        unfold dS at x3 e1; rw [if_neg (by omega), if_pos k'] at x3 e1
        unfold dV at x5 e2; rw [if_neg (by omega), if_neg (by omega), if_pos k'] at x5 e2
        exact ⟨by omega, by omega, by omega, by omega⟩
      · have k' : T p = 111 := by omega
        have e1 := d4 k'
        unfold dS at x3; rw [if_neg (by omega), if_neg (by omega)] at x3
        exact ⟨x3, by omega⟩
      · have k' : T p = 119 := by omega
        rw [if_pos k'] at h
        have i := spW_in hT (show p + 1 ≤ n by omega) (seq_0 h)
        obtain ⟨e1, e2, e3⟩ := d1 k'
        unfold dF at x4; rw [if_pos k'] at x4
        have i' : dG T p = 42 ∨ (48 ≤ dG T p ∧ dG T p ≤ 51) := i
        refine ⟨by omega, by omega, ?_⟩
        by_cases g : dG T p = 42
        · rw [if_pos g] at x4 e2; exact Or.inl ⟨x4, e2⟩
        · rw [if_neg g] at x4 e2; exact Or.inr ⟨by omega, by omega, by omega⟩
  · rw [if_neg hk] at h
    exact absurd (show -1000 - (p : Int) = 0 from h) (by omega)
abbrev R11 := Int32 × Int32 × Int32 × Int32 × Int32 × Int32 × (Nat → Int32) × (Nat → Int32) × (Nat → Int32) × (Nat → Int32) × (Nat → Int32)
noncomputable def xl2 (u1 i9 : Int32) (a1 : Nat → Int32) (f : Nat) (x4 : Int32) (t : RX) (s : R4) : R11 :=
  if s.1.toInt = 0 then f_x3_read_j1 u1 i9 a1 f 0 (x4 + Int32.ofInt 1) s.2.1 s.2.2.1 s.2.2.2 t.2.2.2.2.1 t.2.2.2.2.2.1 t.2.2.2.2.2.2.1 t.2.2.2.2.2.2.2.1 t.2.2.2.2.2.2.2.2.1 t.2.2.2.2.2.2.2.2.2 else f_x3_read_j1 u1 i9 a1 f 1 (x4 + Int32.ofInt 1) s.2.1 s.2.2.1 s.2.2.2 t.2.2.2.2.1 t.2.2.2.2.2.1 t.2.2.2.2.2.2.1 t.2.2.2.2.2.2.2.1 t.2.2.2.2.2.2.2.2.1 t.2.2.2.2.2.2.2.2.2
noncomputable def xl (u1 i9 : Int32) (a1 : Nat → Int32) (f : Nat) (x4 : Int32) (t : RX) : R11 :=
  if t.1.toInt = 0 then f_x3_read_j1 u1 i9 a1 f 0 (x4 + Int32.ofInt 1) t.2.1 t.2.2.1 t.2.2.2.1 t.2.2.2.2.1 t.2.2.2.2.2.1 t.2.2.2.2.2.2.1 t.2.2.2.2.2.2.2.1 t.2.2.2.2.2.2.2.2.1 t.2.2.2.2.2.2.2.2.2
  else if t.2.1.toInt ≥ u1.toInt then f_x3_read_j1 u1 i9 a1 f 0 (x4 + Int32.ofInt 1) t.2.1 t.2.2.1 t.2.2.2.1 t.2.2.2.2.1 t.2.2.2.2.2.1 t.2.2.2.2.2.2.1 t.2.2.2.2.2.2.2.1 t.2.2.2.2.2.2.2.2.1 t.2.2.2.2.2.2.2.2.2
  else xl2 u1 i9 a1 f x4 t (F_x3_pass 59 u1 t.2.1 t.2.2.1 t.2.2.2.1 a1)
section LOOPS
variable {u1 i9 x4 y a b i16 : Int32} {a1 a22 a23 a24 a25 a26 : Nat → Int32} {f : Nat}
theorem xl_e (h : x4.toInt ≤ 16) : f_x3_read_j1 u1 i9 a1 (f + 1) 1 x4 y a b i16 a22 a23 a24 a25 a26 = xl u1 i9 a1 f x4 (F_x3_readClause x4 i9 u1 y a b i16 a1 a22 a23 a24 a25 a26) := by
  have e : f_x3_read_j1 u1 i9 a1 (f + 1) 1 x4 y a b i16 a22 a23 a24 a25 a26 = if (1 : Int32).toInt = 0 then f_x3_read_b_17 u1 y a b i16 a22 a23 a24 a25 a26 else if x4.toInt > 16 then f_x3_read_b_27 u1 y a b i16 a22 a23 a24 a25 a26 else xl u1 i9 a1 f x4 (F_x3_readClause x4 i9 u1 y a b i16 a1 a22 a23 a24 a25 a26) := rfl
  rw [e, if_neg n10, if_neg (by omega)]
theorem xl_0 : f_x3_read_j1 u1 i9 a1 (f + 1) 0 x4 y a b i16 a22 a23 a24 a25 a26 = if a.toInt ≠ 0 then (-1000 * a - b, u1, y, a, b, i16, a22, a23, a24, a25, a26) else (0, u1, y, a, b, i16, a22, a23, a24, a25, a26) := by
  have e : f_x3_read_j1 u1 i9 a1 (f + 1) 0 x4 y a b i16 a22 a23 a24 a25 a26 = if (0 : Int32).toInt = 0 then (if a.toInt ≠ 0 then (-1000 * a - b, u1, y, a, b, i16, a22, a23, a24, a25, a26) else (0, u1, y, a, b, i16, a22, a23, a24, a25, a26)) else f_x3_read_b_25 u1 i9 a1 x4 y a b i16 a22 a23 a24 a25 a26 (f_x3_read_j1 u1 i9 a1 f) := rfl
  rw [e, if_pos y00]
end LOOPS
abbrev M25 := Int32 × Int32 × Int32 × Int32 × Int32 × Int32 × Int32 × Int32 × Int32 × Int32 × Int32 × Int32 × (Nat → Int32) × (Nat → Int32) × (Nat → Int32) × (Nat → Int32) × (Nat → Int32) × (Nat → Int32) × (Nat → Int32) × (Nat → Int32) × (Nat → Int32) × (Nat → Int32) × (Nat → Int32) × (Nat → Int32) × (Nat → Int32)
section MLOOPS
variable {p0 p1 p2 p3 i6 x53 i9 i11 i12 i13 i14 i15 i16 i17 : Int32} {a1 a15 a16 a17 a18 a19 a20 a21 a22 a23 a24 a25 a26 a27 : Nat → Int32} {f : Nat}
noncomputable def ml2 (p0 p1 p2 p3 i6 : Int32) (a1 a15 a16 a17 a18 : Nat → Int32) (f : Nat) (t : M17) (s : Int32 × Int32) : M25 := f_m12_rules_j52 p0 p1 p2 p3 i6 a1 a15 a16 a17 a18 f 1 s.1 s.2 t.2.2.1 t.2.2.2.1 t.2.2.2.2.1 t.2.2.2.2.2.1 t.2.2.2.2.2.2.1 t.2.2.2.2.2.2.2.1 t.2.2.2.2.2.2.2.2.1 t.2.2.2.2.2.2.2.2.2.1 t.2.2.2.2.2.2.2.2.2.2.1 t.2.2.2.2.2.2.2.2.2.2.2.1 t.2.2.2.2.2.2.2.2.2.2.2.2.1 t.2.2.2.2.2.2.2.2.2.2.2.2.2.1 t.2.2.2.2.2.2.2.2.2.2.2.2.2.2.1 t.2.2.2.2.2.2.2.2.2.2.2.2.2.2.2.1 t.2.2.2.2.2.2.2.2.2.2.2.2.2.2.2.2
noncomputable def ml0 (p0 p1 p2 p3 i6 : Int32) (a1 a15 a16 a17 a18 : Nat → Int32) (f : Nat) (t : M17) : M25 := f_m12_rules_j52 p0 p1 p2 p3 i6 a1 a15 a16 a17 a18 f 0 t.1 t.2.1 t.2.2.1 t.2.2.2.1 t.2.2.2.2.1 t.2.2.2.2.2.1 t.2.2.2.2.2.2.1 t.2.2.2.2.2.2.2.1 t.2.2.2.2.2.2.2.2.1 t.2.2.2.2.2.2.2.2.2.1 t.2.2.2.2.2.2.2.2.2.2.1 t.2.2.2.2.2.2.2.2.2.2.2.1 t.2.2.2.2.2.2.2.2.2.2.2.2.1 t.2.2.2.2.2.2.2.2.2.2.2.2.2.1 t.2.2.2.2.2.2.2.2.2.2.2.2.2.2.1 t.2.2.2.2.2.2.2.2.2.2.2.2.2.2.2.1 t.2.2.2.2.2.2.2.2.2.2.2.2.2.2.2.2
noncomputable def ml (p0 p1 p2 p3 i6 : Int32) (a1 a15 a16 a17 a18 : Nat → Int32) (f : Nat) (t : M17) : M25 :=
  if (F_m12_isGood t.2.1).toInt = 0 then ml0 p0 p1 p2 p3 i6 a1 a15 a16 a17 a18 f t else if t.1.toInt ≥ p3.toInt then ml0 p0 p1 p2 p3 i6 a1 a15 a16 a17 a18 f t else ml2 p0 p1 p2 p3 i6 a1 a15 a16 a17 a18 f t (F_m12_must 59 t.1 p3 t.2.1 a1)
theorem ml_s : f_m12_rules_j52 p0 p1 p2 p3 i6 a1 a15 a16 a17 a18 (f + 1) x53 i9 i11 i12 i13 i14 i15 i16 i17 a19 a20 a21 a22 a23 a24 a25 a26 a27 = if x53.toInt = 0 then f_m12_rules_j85 p0 p1 p2 p3 i6 a15 a16 a17 a18 i9 i11 i12 i13 i14 i15 i16 i17 a19 a20 a21 a22 a23 a24 a25 a26 a27 else if (F_m12_isGood i11).toInt = 0 then f_m12_rules_j85 p0 p1 p2 p3 i6 a15 a16 a17 a18 i9 i11 i12 i13 i14 i15 i16 i17 a19 a20 a21 a22 a23 a24 a25 a26 a27 else ml p0 p1 p2 p3 i6 a1 a15 a16 a17 a18 f (F_m12_clause i6 i9 p3 i11 i12 i13 i14 i15 i16 i17 a1 a19 a20 a21 a22 a23 a24 a25 a26 a27) := rfl
theorem ml_e (h : i11.toInt = 0) : f_m12_rules_j52 p0 p1 p2 p3 i6 a1 a15 a16 a17 a18 (f + 1) 1 i9 i11 i12 i13 i14 i15 i16 i17 a19 a20 a21 a22 a23 a24 a25 a26 a27 = ml p0 p1 p2 p3 i6 a1 a15 a16 a17 a18 f (F_m12_clause i6 i9 p3 i11 i12 i13 i14 i15 i16 i17 a1 a19 a20 a21 a22 a23 a24 a25 a26 a27) := by
  rw [ml_s, if_neg n10, good1 h, if_neg n10]
theorem ml_0 : f_m12_rules_j52 p0 p1 p2 p3 i6 a1 a15 a16 a17 a18 (f + 1) 0 i9 i11 i12 i13 i14 i15 i16 i17 a19 a20 a21 a22 a23 a24 a25 a26 a27 = f_m12_rules_j85 p0 p1 p2 p3 i6 a15 a16 a17 a18 i9 i11 i12 i13 i14 i15 i16 i17 a19 a20 a21 a22 a23 a24 a25 a26 a27 := by
  rw [ml_s, if_pos y00]
theorem ml_bad (h : i11.toInt ≠ 0) : f_m12_rules_j52 p0 p1 p2 p3 i6 a1 a15 a16 a17 a18 (f + 1) 1 i9 i11 i12 i13 i14 i15 i16 i17 a19 a20 a21 a22 a23 a24 a25 a26 a27 = f_m12_rules_j85 p0 p1 p2 p3 i6 a15 a16 a17 a18 i9 i11 i12 i13 i14 i15 i16 i17 a19 a20 a21 a22 a23 a24 a25 a26 a27 := by
  rw [ml_s, if_neg n10, good0 h, if_pos y00]
end MLOOPS
def Sb (k : Nat) (f g : Nat → Int32) : Prop := ∀ c, c < k → g c = f c
theorem Sb_t {k : Nat} {f g h : Nat → Int32} (a : Sb k f g) (b : Sb k g h) : Sb k f h := fun c hc => (b c hc).trans (a c hc)
theorem Sb_m {k c : Nat} {f g : Nat → Int32} (h : Sm c f g) (hk : k ≤ c) : Sb k f g := fun d hd => h d (by omega)
theorem CLR_m {a22 a23 a24 a25 b19 b20 b21 b22 c22 c23 c24 c25 d19 d20 d21 d22 : Nat → Int32} {c k : Nat} (h : CLR a22 a23 a24 a25 b19 b20 b21 b22 c) (hc : c ≠ k) (x2 : Sm k a22 c22) (x3 : Sm k a23 c23) (x4 : Sm k a24 c24) (x5 : Sm k a25 c25) (y9 : Sm k b19 d19) (y0 : Sm k b20 d20) (y1 : Sm k b21 d21) (y2 : Sm k b22 d22) : CLR c22 c23 c24 c25 d19 d20 d21 d22 c := by
  unfold CLR
  rw [x2 c hc, x3 c hc, x4 c hc, x5 c hc, y9 c hc, y0 c hc, y1 c hc, y2 c hc]
  exact h
/-- a clause's condition on both sides: where its text begins, where its code lies -/
def CLE (T : Nat → Int) (E : List IN) (s f t : Int32) : Prop :=
  (s.toInt = -1 ∧ f.toInt = t.toInt) ∨ ∃ st e : Nat, s.toInt = (st : Int) ∧ 1 ≤ st ∧ T (st - 1) = 40 ∧ (sp T 1000 3 1 st).1 = 0 ∧ f.toInt = (e : Int) ∧ t.toInt = ((e + (cm T 1000 3 1 [] st).length : Nat) : Int) ∧ (∀ (k : Nat) (x : IN), (cm T 1000 3 1 [] st)[k]? = some x → E[e + k]? = some x)
theorem CLE_app {T : Nat → Int} {E F : List IN} {s f t : Int32} (h : CLE T E s f t) : CLE T (E ++ F) s f t := by
  rcases h with h | ⟨st, e, h1, h2, h7, h3, h4, h5, h6⟩
  · exact Or.inl h
  · refine Or.inr ⟨st, e, h1, h2, h7, h3, h4, h5, fun k x hx => ?_⟩
    have g := h6 k x hx
    rw [List.getElem?_append_left (List.getElem?_eq_some_iff.mp g).1]
    exact g
theorem spCl_K {T : Nat → Int} {j p : Nat} (h : (spCl T j p).1 = 0) : (spK T p).1 = 0 := by
  unfold spCl at h
  by_cases hk : T p = 119 ∨ T p = 115 ∨ T p = 107 ∨ T p = 118 ∨ T p = 111
  · rw [if_pos hk] at h
    by_cases hj : 16 ≤ j
    · rw [if_pos hj] at h
      exact absurd (show -4000 - (p : Int) = 0 from h) (by omega)
    · rw [if_neg hj] at h; exact h
  · rw [if_neg hk] at h
    exact absurd (show -1000 - (p : Int) = 0 from h) (by omega)
theorem spT_C {T : Nat → Int} {q : Nat} (h : (spT T q).1 = 0) (hq : T q = 40) : (sp T 1000 3 1 (q + 1)).1 = 0 := by
  unfold spT at h
  rw [if_pos hq] at h
  exact seq_0 h
theorem CLE_new {T : Nat → Int} {j p q2 : Nat} {i6 : Int32} {g25 g26 b3 b4 : Nat → Int32} {c : Nat} {E : List IN} {k : C3} {s : Int32} (h : (spCl T j p).1 = 0) (hs : s.toInt = stx T p) (hm : ME i6 g25 g26 E (cmK T p) q2 c b3 b4 k) : CLE T (E ++ cmK T p) s (b3 c) (b4 c) := by
  obtain ⟨m1, m2, m3, m4⟩ := hm
  have hK := spCl_K h
  unfold stx at hs
  unfold cmK at m4 ⊢
  by_cases w : (T p = 119 ∨ T p = 115) ∧ T (hdq T p) = 40
  · rw [if_pos w] at hs m4 ⊢
    have hc : (spT T (hdq T p)).1 = 0 := by
      unfold spK at hK
      unfold hdq
      by_cases k1 : T p = 119
      · rw [if_pos k1] at hK ⊢
        have g := seq_0 hK
        rw [seq_y g] at hK
        exact hK
      · rw [if_neg k1] at hK ⊢
        rw [if_pos (w.1.resolve_left k1)] at hK
        exact hK
    have hsp := spT_C hc w.2
    have el : (E ++ cmC T (hdq T p)).length = E.length + (cmC T (hdq T p)).length := List.length_append
    refine Or.inr ⟨hdq T p + 1, E.length, hs, Nat.le_add_left 1 _, w.2, hsp, m3, by rw [m4, el]; rfl, fun k x hx => ?_⟩
    rw [List.getElem?_append_right (Nat.le_add_right _ _), Nat.add_sub_cancel_left]
    exact hx
  · rw [if_neg w] at hs m4 ⊢
    rw [List.append_nil] at m4
    exact Or.inl ⟨hs, by omega⟩
theorem CLE_m {T : Nat → Int} {E : List IN} {a26 c26 b23 d23 b24 d24 : Nat → Int32} {c k : Nat} (h : CLE T E (a26 c) (b23 c) (b24 c)) (hc : c ≠ k) (x6 : Sm k a26 c26) (y3 : Sm k b23 d23) (y4 : Sm k b24 d24) : CLE T E (c26 c) (d23 c) (d24 c) := by
  rw [x6 c hc, y3 c hc, y4 c hc]
  exact h
theorem fl_of {z w o m : Int32} {q : Nat} (h : z.toInt = -1000 * o.toInt - m.toInt) (ho : o.toInt = 1) (hm : m.toInt = (q : Int)) (n2 : w.toInt = -1000 - (q : Int)) : w.toInt = z.toInt ∧ z.toInt ≤ 0 ∧ ¬ z.toInt = 0 := by omega
/-- what both come to: the class's answer and the reference's state before it answers -/
def RU (T : Nat → Int) (r : Nat) (p0 p1 p2 p3 i6 : Int32) (a15 a16 a17 a18 : Nat → Int32) (f22 f23 f24 f25 f26 g19 g20 g21 g22 g23 g24 g25 g26 : Nat → Int32) (t : R11) (m : M25) : Prop :=
  ∃ (y9 y11 y12 y13 y14 y15 y16 y17 : Int32) (c19 c20 c21 c22 c23 c24 c25 c26 c27 : Nat → Int32), m = f_m12_rules_j85 p0 p1 p2 p3 i6 a15 a16 a17 a18 y9 y11 y12 y13 y14 y15 y16 y17 c19 c20 c21 c22 c23 c24 c25 c26 c27 ∧ t.1.toInt = y11.toInt ∧ y11.toInt ≤ 0 ∧
    (y11.toInt = 0 → (t.2.2.2.2.2.1.toInt = y12.toInt ∧ 1 ≤ y12.toInt ∧ y12.toInt ≤ 16 ∧ ∀ c, 16 * r ≤ c → (c : Int) < 16 * (r : Int) + y12.toInt → CLR t.2.2.2.2.2.2.1 t.2.2.2.2.2.2.2.1 t.2.2.2.2.2.2.2.2.1 t.2.2.2.2.2.2.2.2.2.1 c19 c20 c21 c22 c) ∧ ∃ E : List IN, CD i6 g25 g26 E (y13, c25, c26) ∧ ∀ c, 16 * r ≤ c → (c : Int) < 16 * (r : Int) + y12.toInt → CLE T E (t.2.2.2.2.2.2.2.2.2.2 c) (c23 c) (c24 c)) ∧
    (Sb (16 * r) f22 t.2.2.2.2.2.2.1 ∧ Sb (16 * r) f23 t.2.2.2.2.2.2.2.1 ∧ Sb (16 * r) f24 t.2.2.2.2.2.2.2.2.1 ∧ Sb (16 * r) f25 t.2.2.2.2.2.2.2.2.2.1 ∧ Sb (16 * r) g19 c19 ∧ Sb (16 * r) g20 c20 ∧ Sb (16 * r) g21 c21 ∧ Sb (16 * r) g22 c22) ∧
    (Sb (16 * r) f26 t.2.2.2.2.2.2.2.2.2.2 ∧ Sb (16 * r) g23 c23 ∧ Sb (16 * r) g24 c24 ∧ FRM i6 g25 g26 (y13, c25, c26))
theorem both {T : Nat → Int} {n r : Nat} {u1 i9 p0 p1 p2 p3 i6 : Int32} {a1 b1 a15 a16 a17 a18 f22 f23 f24 f25 f26 g19 g20 g21 g22 g23 g24 g25 g26 : Nat → Int32} (hT : TXT T n) (hx : TXX T n u1 a1) (hm : TXM T n p3 b1) (hi : i9.toInt = (r : Int)) (hi6 : i6.toInt = (r : Int)) (hr : r < 20) :
    ∀ (f g j p : Nat) (E : List IN) (x4 y a b i16 m9 m11 m12 m13 m14 m15 m16 m17 : Int32) (a22 a23 a24 a25 a26 b19 b20 b21 b22 b23 b24 b25 b26 b27 : Nat → Int32), x4.toInt = (j : Int) → y.toInt = (p : Int) → a.toInt = 0 → m9.toInt = (p : Int) → m11.toInt = 0 → m12.toInt = (j : Int) → j ≤ 16 → p ≤ n → 18 ≤ f + j → 18 ≤ g + j →
    (∀ c, 16 * r ≤ c → c < 16 * r + j → CLR a22 a23 a24 a25 b19 b20 b21 b22 c) → Sb (16 * r) f22 a22 → Sb (16 * r) f23 a23 → Sb (16 * r) f24 a24 → Sb (16 * r) f25 a25 → Sb (16 * r) g19 b19 → Sb (16 * r) g20 b20 → Sb (16 * r) g21 b21 → Sb (16 * r) g22 b22 →
    CD i6 g25 g26 E (m13, b25, b26) → E.length ≤ p → (∀ c, 16 * r ≤ c → c < 16 * r + j → CLE T E (a26 c) (b23 c) (b24 c)) → Sb (16 * r) f26 a26 → Sb (16 * r) g23 b23 → Sb (16 * r) g24 b24 →
    RU T r p0 p1 p2 p3 i6 a15 a16 a17 a18 f22 f23 f24 f25 f26 g19 g20 g21 g22 g23 g24 g25 g26 (f_x3_read_j1 u1 i9 a1 f 1 x4 y a b i16 a22 a23 a24 a25 a26) (f_m12_rules_j52 p0 p1 p2 p3 i6 b1 a15 a16 a17 a18 g 1 m9 m11 m12 m13 m14 m15 m16 m17 b19 b20 b21 b22 b23 b24 b25 b26 b27) := by
  have h160 := hT.1
  have e1 := c1
  have o1 := co1
  intro f
  induction f with
  | zero => intro g j p E x4 y a b i16 m9 m11 m12 m13 m14 m15 m16 m17 a22 a23 a24 a25 a26 b19 b20 b21 b22 b23 b24 b25 b26 b27 _ _ _ _ _ _ h1 _ h2; omega
  | succ f ih =>
    intro g j p E x4 y a b i16 m9 m11 m12 m13 m14 m15 m16 m17 a22 a23 a24 a25 a26 b19 b20 b21 b22 b23 b24 b25 b26 b27 hx4 hy ha hm9 hm11 hm12 hj hp hf hg hC s22 s23 s24 s25 t19 t20 t21 t22 hCD hE hCE s26 t23 t24
    obtain ⟨g, rfl⟩ : ∃ w, g = w + 2 := ⟨g - 2, by omega⟩
    obtain ⟨f, rfl⟩ : ∃ w, f = w + 1 := ⟨f - 1, by omega⟩
    rw [xl_e (by omega), ml_e hm11]
    have X := x_clause (j := j) (a := a) (b := b) (i16 := i16) (a22 := a22) (a23 := a23) (a24 := a24) (a25 := a25) (a26 := a26) hT hx hi hx4 hr hy hp
    have Y := m_clause (j := j) (i14 := m14) (i15 := m15) (i16 := m16) (i17 := m17) (a19 := b19) (a20 := b20) (a21 := b21) (a22 := b22) (a23 := b23) (a24 := b24) (a27 := b27) hT hm hm11 hi6 hr hm12 hj hm9 hp hCD hE
    have O := spCl_ok (j := j) hT hp
    generalize F_x3_readClause x4 i9 u1 y a b i16 a1 a22 a23 a24 a25 a26 = t at X
    generalize F_m12_clause i6 m9 p3 m11 m12 m13 m14 m15 m16 m17 b1 b19 b20 b21 b22 b23 b24 b25 b26 b27 = m at Y
    obtain ⟨x1, x2, x3, x4', x5, x6, x7⟩ := X
    obtain ⟨yy, y9, y0, y1, y2, y3, y4⟩ := Y
    have k22 := Sb_t s22 (Sb_m x2 (Nat.le_add_right _ _))
    have k23 := Sb_t s23 (Sb_m x3 (Nat.le_add_right _ _))
    have k24 := Sb_t s24 (Sb_m x4' (Nat.le_add_right _ _))
    have k25 := Sb_t s25 (Sb_m x5 (Nat.le_add_right _ _))
    have k26 := Sb_t s26 (Sb_m x6 (Nat.le_add_right _ _))
    have k19 := Sb_t t19 (Sb_m y9 (Nat.le_add_right _ _))
    have k20 := Sb_t t20 (Sb_m y0 (Nat.le_add_right _ _))
    have k21 := Sb_t t21 (Sb_m y1 (Nat.le_add_right _ _))
    have k2 := Sb_t t22 (Sb_m y2 (Nat.le_add_right _ _))
    have k3 := Sb_t t23 (Sb_m y3 (Nat.le_add_right _ _))
    have k4 := Sb_t t24 (Sb_m y4 (Nat.le_add_right _ _))
    obtain ⟨t1, t2, t3, t4, t5, t6, t7, t8, t9, t10⟩ := t
    obtain ⟨m1, m2, m3, n13, m4, m5, m6, m7, m8, m9', m10, m11', n23, n24, n25, n26, m12'⟩ := m
    rcases O with ⟨o2, o3, o4⟩ | o2
    · rcases x1 with ⟨_, g2, g3, g4, g5⟩ | ⟨g1, _⟩
      · rcases yy with ⟨q1, _⟩ | ⟨_, q2, q3, q4, q5, q6, q7⟩
        · omega
        · have g2 : t1 = 1 := g2
          have g3 : t2.toInt = ((spCl T j p).2 : Int) := g3
          have g4 : t3 = a := g4
          have q2 : m1.toInt = ((spCl T j p).2 : Int) := q2
          have q3 : m2.toInt = 0 := q3
          have q4 : m3.toInt = ((j + 1 : Nat) : Int) := q4
          have q7 : ME i6 g25 g26 E (cmK T p) (spCl T j p).2 (16 * r + j) n23 n24 (n13, n25, n26) := q7
          obtain ⟨z5, z6, z7, z8, z9, z10⟩ := x7 o2
          have z5 : t5.toInt = ((j + 1 : Nat) : Int) := z5
          have z10 : (t10 (16 * r + j)).toInt = stx T p := z10
          have hj16 : j < 16 := by
            by_cases w : 16 ≤ j
            · unfold spCl at o2
              split at o2
              · first
                | exact absurd (show -4000 - (p : Int) = 0 from o2) (by omega)
                | (rw [if_pos w] at o2
                   exact absurd (show -4000 - (p : Int) = 0 from o2) (by omega))
              · exact absurd (show -1000 - (p : Int) = 0 from o2) (by omega)
            · omega
          have NC : ∀ c, 16 * r ≤ c → c < 16 * r + (j + 1) → CLR t6 t7 t8 t9 m8 m9' m10 m11' c := by
            intro c hc1 hc2
            by_cases w : c = 16 * r + j
            · subst w
              exact CLR_of hT hp o2 z6 z7 z8 z9 q5 q6
            · exact CLR_m (hC c hc1 (by omega)) w x2 x3 x4' x5 y9 y0 y1 y2
          have NE : ∀ c, 16 * r ≤ c → c < 16 * r + (j + 1) → CLE T (E ++ cmK T p) (t10 c) (n23 c) (n24 c) := by
            intro c hc1 hc2
            by_cases w : c = 16 * r + j
            · subst w
              exact CLE_new o2 z10 q7
            · exact CLE_app (CLE_m (hCE c hc1 (by omega)) w x6 y3 y4)
          obtain ⟨q8, q9, _, _⟩ := q7
          generalize E ++ cmK T p = E2 at NE q8 q9
          generalize (spCl T j p).2 = q at g3 q2 o3 o4 q9
          unfold xl ml
          dsimp only
          rw [if_neg (show ¬ t1.toInt = 0 by rw [g2]; decide), good1 q3, if_neg n10]
          have hu := hx.1
          have hp3 := hm.1
          by_cases w : n ≤ q
          · rw [if_pos (show t2.toInt ≥ u1.toInt by omega), if_pos (show m1.toInt ≥ p3.toInt by omega)]
            unfold ml0
            dsimp only
            rw [xl_0, ml_0, if_neg (by rw [g4]; omega)]
            exact ⟨m1, m2, m3, n13, m4, m5, m6, m7, m8, m9', m10, m11', n23, n24, n25, n26, m12', rfl, by show (0 : Int32).toInt = _; rw [c0, q3], by omega, fun _ => ⟨⟨by show t5.toInt = _; omega, by omega, by omega, fun c h1 h2 => NC c h1 (by omega)⟩, E2, q8, fun c h1 h2 => NE c h1 (by omega)⟩, ⟨k22, k23, k24, k25, k19, k20, k21, k2⟩, k26, k3, k4, CD_frm q8⟩
          · rw [if_neg (show ¬ t2.toInt ≥ u1.toInt by omega), if_neg (show ¬ m1.toInt ≥ p3.toInt by omega)]
            have hs := sg_of hT hx g3
            have hh := hr_of hT hm q2
            have c59 : (59 : Int32).toInt = 59 := by decide
            by_cases w2 : T q = 59
            · rw [xpass1 (by omega), must1 (by omega)]
              unfold xl2 ml2
              dsimp only
              rw [if_neg n10]
              have ec := toInt_add hx4 o1 (by omega) (by omega)
              exact ih (g + 1) (j + 1) (q + 1) E2 (x4 + Int32.ofInt 1) (t2 + 1) t3 t4 t5 (m1 + 1) m2 m3 n13 m4 m5 m6 m7 t6 t7 t8 t9 t10 m8 m9' m10 m11' n23 n24 n25 n26 m12' (by omega) (suc_of g3 (by omega)) (by rw [g4]; exact ha) (suc_of q2 (by omega)) q3 q4 (by omega) (by omega) (by omega) (by omega) NC k22 k23 k24 k25 k19 k20 k21 k2 q8 (by omega) NE k26 k3 k4
            · have f1 := fl0 (f := 1) (a := m1) q3 (by omega) (by omega)
              rw [xpass0 (by omega), must0 (by omega)]
              unfold xl2 ml2
              dsimp only
              rw [if_pos y00, xl_0, if_pos y10, ml_bad (by omega)]
              have kk : (-1000 : Int32).toInt = -1000 := by decide
              have n1 : ((-1000 : Int32) * 1).toInt = -1000 := by decide
              have n2 := toInt_sub n1 g3 (by omega) (by omega)
              obtain ⟨K1, K2, K3⟩ := fl_of f1 e1 q2 n2
              exact ⟨m1 + 1, F_m12_fails 1 m1 m2, m3, n13, m4, m5, m6, m7, m8, m9', m10, m11', n23, n24, n25, n26, m12', rfl, K1, K2, fun z => absurd z K3, ⟨k22, k23, k24, k25, k19, k20, k21, k2⟩, k26, k3, k4, CD_frm q8⟩
      · omega
    · rcases x1 with ⟨g1, _⟩ | ⟨g1, g2, g3, g4, g5, g6, g7⟩
      · omega
      · rcases yy with ⟨q1, q2, qF⟩ | ⟨q1, _⟩
        · have g2 : t1 = 0 := g2
          have g3 : (spCl T j p).1 = -1000 * t3.toInt - t4.toInt := g3
          have g4 : 1 ≤ t3.toInt := g4
          have g5 : t3.toInt ≤ 6 := g5
          have g6 : 0 ≤ t4.toInt := g6
          have g7 : t4.toInt ≤ 200 := g7
          have q2 : m2.toInt = (spCl T j p).1 := q2
          clear x7 y9 y0 y1 y2 x2 x3 x4' x5 x6 y3 y4
          generalize (spCl T j p).1 = e at o2 g3 q1 q2
          unfold xl ml
          dsimp only
          rw [if_pos (show t1.toInt = 0 by rw [g2]; decide), good0 (by omega), if_pos y00]
          unfold ml0
          dsimp only
          rw [xl_0, ml_0, if_pos (by omega)]
          have kk : (-1000 : Int32).toInt = -1000 := by decide
          have n1 : ((-1000 : Int32) * t3).toInt = -1000 * t3.toInt := toInt_mul kk rfl rfl (by omega) (by omega)
          have n2 := toInt_sub n1 (show t4.toInt = t4.toInt from rfl) (by omega) (by omega)
          exact ⟨m1, m2, m3, n13, m4, m5, m6, m7, m8, m9', m10, m11', n23, n24, n25, n26, m12', rfl, by show (-1000 * t3 - t4 : Int32).toInt = _; omega, by omega, fun z => by omega, ⟨k22, k23, k24, k25, k19, k20, k21, k2⟩, k26, k3, k4, qF⟩
        · omega
