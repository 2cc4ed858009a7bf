/-! UNLIKE twos, as the reference goes through them -/
section MUN
variable {v day i3 i6 i9 cu : Int32} {a7 a8 a13 a18 a19 a20 a21 a22 a23 a24 a25 a26 b2 b3 b4 b8 b15 b16 b17 b18 b19 b20 b21 b22 b23 b24 b25 b26 b5 : Nat → Int32} {r9n rtn : Nat → Nat} {r9c rtc : Nat → Nat → Int32} {c : Nat}
abbrev RUU := Int32 × Int32 × Int32 × Int32 × Int32 × (Nat → Int32) × (Nat → Int32) × (Nat → Int32)
theorem n10' : (1 : Int32).toInt ≠ 0 := by decide
theorem n00' : ¬ ((0 : Int32).toInt ≠ 0) := by decide
theorem mu64 {U : PL → PL → Bool} {wt x3 x16 x29 x49 z61 : Int32} {v p w n : Nat} {b34 b38 b39 b40 b41 b42 : Nat → Int32} {K : Int32 → Int32 → Int32 → Int32 → Int32 → Int32 → (Nat → Int32) → (Nat → Int32) → RUU} (hv : x3.toInt = (v : Int)) (hp : x29.toInt = (p : Int)) (hw : x49.toInt = (w : Int)) (hz : ¬ z61.toInt = -1) (hn : ((b38 z61.toNatClampNeg) - (1 : Int32)).toInt = (n : Int) ∨ (((b38 z61.toNatClampNeg) - (1 : Int32)).toInt < 0 ∧ n = 0)) (hn8 : n ≤ 8)
    (hU : ∀ (u : Nat) (x66 : Int32) (b28 b29 : Nat → Int32), x66.toInt = (u : Int) → u < n → ∃ d28 d29 : Nat → Int32, F_m12_isUnlike x16 x29 z61 x66 day i6 i9 b2 b3 b4 b8 b15 b16 b17 b18 b19 b20 b21 b23 b24 b25 b26 b28 b29 b34 b39 b40 b41 b42 = ((if U (v, p) (w, u) = true then 1 else 0), d28, d29)) :
    ∀ (m f u : Nat) (x65 x66 i22 i23 i24 i25 : Int32) (b28 b29 : Nat → Int32), x66.toInt = (u : Int) → n = u + m → m < f → 0 ≤ x65.toInt → x65.toInt + m ≤ 2000000 →
    ∃ (y : Int32) (d28 d29 : Nat → Int32), f_m12_unlikes_j64 wt day i6 i9 b2 b3 b4 b8 b15 b16 b17 b18 b19 b20 b21 b23 b24 b25 b26 b34 b38 b39 b40 b41 b42 x3 x16 x29 x49 K z61 f x65 x66 i22 i23 i24 i25 b28 b29 = K y (x49 + Int32.ofInt 1) (fnd wt.toInt x65.toInt (secP U (v, p) (prow w m u)) (i22, i23, i24, i25)).1 (fnd wt.toInt x65.toInt (secP U (v, p) (prow w m u)) (i22, i23, i24, i25)).2.1 (fnd wt.toInt x65.toInt (secP U (v, p) (prow w m u)) (i22, i23, i24, i25)).2.2.1 (fnd wt.toInt x65.toInt (secP U (v, p) (prow w m u)) (i22, i23, i24, i25)).2.2.2 d28 d29 ∧ y.toInt = x65.toInt + (secP U (v, p) (prow w m u)).length := by
  have o1 := co1
  intro m
  induction m with
  | zero =>
    intro f u x65 x66 i22 i23 i24 i25 b28 b29 hx hm hf _ _
    obtain ⟨f, rfl⟩ : ∃ w, f = w + 1 := ⟨f - 1, by omega⟩
    rw [S_m12_unlikes_j64, if_neg hz, if_pos (by omega)]
    exact ⟨x65, b28, b29, rfl, by show _ = x65.toInt + ((0 : Nat) : Int); omega⟩
  | succ m ih =>
    intro f u x65 x66 i22 i23 i24 i25 b28 b29 hx hm hf h0 hb
    obtain ⟨f, rfl⟩ : ∃ w, f = w + 1 := ⟨f - 1, by omega⟩
    have hx1 := toInt_add hx co1 (by omega) (by omega)
    have hx2 := toInt_add (x := x65) rfl co1 (by omega) (by omega)
    have e2 : (x65 + Int32.ofInt 1).toInt = x65.toInt + 1 := by omega
    obtain ⟨d28, d29, hd⟩ := hU u x66 b28 b29 hx (by omega)
    rw [S_m12_unlikes_j64, if_neg hz, if_neg (by omega), hd]
    dsimp only
    show ∃ (y : Int32) (c28 c29 : Nat → Int32), _ = K y (x49 + Int32.ofInt 1) (fnd wt.toInt x65.toInt (secP U (v, p) ((w, u) :: prow w m (u + 1))) (i22, i23, i24, i25)).1 (fnd wt.toInt x65.toInt (secP U (v, p) ((w, u) :: prow w m (u + 1))) (i22, i23, i24, i25)).2.1 (fnd wt.toInt x65.toInt (secP U (v, p) ((w, u) :: prow w m (u + 1))) (i22, i23, i24, i25)).2.2.1 (fnd wt.toInt x65.toInt (secP U (v, p) ((w, u) :: prow w m (u + 1))) (i22, i23, i24, i25)).2.2.2 c28 c29 ∧ y.toInt = x65.toInt + (secP U (v, p) ((w, u) :: prow w m (u + 1))).length
    by_cases k : U (v, p) (w, u) = true
    · have e : ∀ L : List I4, ((i4 (v, p) (w, u) :: L).length : Int) = L.length + 1 := fun L => by show ((L.length + 1 : Nat) : Int) = _; omega
      rw [if_pos k, if_pos n10', secP_y k]
      by_cases w3 : x65.toInt ≠ wt.toInt
      · rw [if_pos w3]
        obtain ⟨y, c28, c29, r1, r2⟩ := ih f (u + 1) (x65 + Int32.ofInt 1) (x66 + Int32.ofInt 1) i22 i23 i24 i25 d28 d29 (by omega) (by omega) (by omega) (by omega) (by omega)
        rw [e2] at r1 r2
        refine ⟨y, c28, c29, ?_, by rw [e]; omega⟩
        have ef : fnd wt.toInt x65.toInt (i4 (v, p) (w, u) :: secP U (v, p) (prow w m (u + 1))) (i22, i23, i24, i25) = fnd wt.toInt (x65.toInt + 1) (secP U (v, p) (prow w m (u + 1))) (i22, i23, i24, i25) := by
          show fnd wt.toInt (x65.toInt + 1) _ (if x65.toInt = wt.toInt then _ else (i22, i23, i24, i25)) = _
          rw [if_neg w3]
        rw [ef]; exact r1
      · rw [if_neg w3]
        obtain ⟨y, c28, c29, r1, r2⟩ := ih f (u + 1) (x65 + Int32.ofInt 1) (x66 + Int32.ofInt 1) x3 x49 x29 x66 d28 d29 (by omega) (by omega) (by omega) (by omega) (by omega)
        rw [e2] at r1 r2
        refine ⟨y, c28, c29, ?_, by rw [e]; omega⟩
        have ef : fnd wt.toInt x65.toInt (i4 (v, p) (w, u) :: secP U (v, p) (prow w m (u + 1))) (i22, i23, i24, i25) = fnd wt.toInt (x65.toInt + 1) (secP U (v, p) (prow w m (u + 1))) (x3, x49, x29, x66) := by
          show fnd wt.toInt (x65.toInt + 1) _ (if x65.toInt = wt.toInt then i4 (v, p) (w, u) else (i22, i23, i24, i25)) = _
          rw [if_pos (show x65.toInt = wt.toInt by omega)]
          show fnd wt.toInt (x65.toInt + 1) _ (Int32.ofNat v, Int32.ofNat w, Int32.ofNat p, Int32.ofNat u) = _
          rw [← oN hv, ← oN hw, ← oN hp, ← oN hx]
        rw [ef]; exact r1
    · rw [if_neg k, if_neg n00', secP_n k]
      obtain ⟨y, c28, c29, r1, r2⟩ := ih f (u + 1) x65 (x66 + Int32.ofInt 1) i22 i23 i24 i25 d28 d29 (by omega) (by omega) (by omega) h0 (by omega)
      exact ⟨y, c28, c29, r1, r2⟩
theorem mu106 {U : PL → PL → Bool} {wt x3 x16 x29 x49 z61 : Int32} {v p w n : Nat} {b34 b38 b39 b40 b41 b42 : Nat → Int32} {K : Int32 → Int32 → Int32 → Int32 → Int32 → Int32 → (Nat → Int32) → (Nat → Int32) → RUU} (hv : x3.toInt = (v : Int)) (hp : x29.toInt = (p : Int)) (hw : x49.toInt = (w : Int)) (hz : ¬ z61.toInt = -1) (hn : ((b38 z61.toNatClampNeg) - (1 : Int32)).toInt = (n : Int) ∨ (((b38 z61.toNatClampNeg) - (1 : Int32)).toInt < 0 ∧ n = 0)) (hn8 : n ≤ 8)
    (hU : ∀ (u : Nat) (x66 : Int32) (b28 b29 : Nat → Int32), x66.toInt = (u : Int) → u < n → ∃ d28 d29 : Nat → Int32, F_m12_isUnlike x16 x29 z61 x66 day i6 i9 b2 b3 b4 b8 b15 b16 b17 b18 b19 b20 b21 b23 b24 b25 b26 b28 b29 b34 b39 b40 b41 b42 = ((if U (v, p) (w, u) = true then 1 else 0), d28, d29)) :
    ∀ (m f u : Nat) (x65 x66 i22 i23 i24 i25 : Int32) (b28 b29 : Nat → Int32), x66.toInt = (u : Int) → n = u + m → m < f → 0 ≤ x65.toInt → x65.toInt + m ≤ 2000000 →
    ∃ (y : Int32) (d28 d29 : Nat → Int32), f_m12_unlikes_j106 wt day i6 i9 b2 b3 b4 b8 b15 b16 b17 b18 b19 b20 b21 b23 b24 b25 b26 b34 b38 b39 b40 b41 b42 x3 x16 x29 x49 K z61 f x65 x66 i22 i23 i24 i25 b28 b29 = K y (x49 + Int32.ofInt 1) (fnd wt.toInt x65.toInt (secP U (v, p) (prow w m u)) (i22, i23, i24, i25)).1 (fnd wt.toInt x65.toInt (secP U (v, p) (prow w m u)) (i22, i23, i24, i25)).2.1 (fnd wt.toInt x65.toInt (secP U (v, p) (prow w m u)) (i22, i23, i24, i25)).2.2.1 (fnd wt.toInt x65.toInt (secP U (v, p) (prow w m u)) (i22, i23, i24, i25)).2.2.2 d28 d29 ∧ y.toInt = x65.toInt + (secP U (v, p) (prow w m u)).length := by
  have o1 := co1
  intro m
  induction m with
  | zero =>
    intro f u x65 x66 i22 i23 i24 i25 b28 b29 hx hm hf _ _
    obtain ⟨f, rfl⟩ : ∃ w, f = w + 1 := ⟨f - 1, by omega⟩
    rw [S_m12_unlikes_j106, if_neg hz, if_pos (by omega)]
    exact ⟨x65, b28, b29, rfl, by show _ = x65.toInt + ((0 : Nat) : Int); omega⟩
  | succ m ih =>
    intro f u x65 x66 i22 i23 i24 i25 b28 b29 hx hm hf h0 hb
    obtain ⟨f, rfl⟩ : ∃ w, f = w + 1 := ⟨f - 1, by omega⟩
    have hx1 := toInt_add hx co1 (by omega) (by omega)
    have hx2 := toInt_add (x := x65) rfl co1 (by omega) (by omega)
    have e2 : (x65 + Int32.ofInt 1).toInt = x65.toInt + 1 := by omega
    obtain ⟨d28, d29, hd⟩ := hU u x66 b28 b29 hx (by omega)
    rw [S_m12_unlikes_j106, if_neg hz, if_neg (by omega), hd]
    dsimp only
    show ∃ (y : Int32) (c28 c29 : Nat → Int32), _ = K y (x49 + Int32.ofInt 1) (fnd wt.toInt x65.toInt (secP U (v, p) ((w, u) :: prow w m (u + 1))) (i22, i23, i24, i25)).1 (fnd wt.toInt x65.toInt (secP U (v, p) ((w, u) :: prow w m (u + 1))) (i22, i23, i24, i25)).2.1 (fnd wt.toInt x65.toInt (secP U (v, p) ((w, u) :: prow w m (u + 1))) (i22, i23, i24, i25)).2.2.1 (fnd wt.toInt x65.toInt (secP U (v, p) ((w, u) :: prow w m (u + 1))) (i22, i23, i24, i25)).2.2.2 c28 c29 ∧ y.toInt = x65.toInt + (secP U (v, p) ((w, u) :: prow w m (u + 1))).length
    by_cases k : U (v, p) (w, u) = true
    · have e : ∀ L : List I4, ((i4 (v, p) (w, u) :: L).length : Int) = L.length + 1 := fun L => by show ((L.length + 1 : Nat) : Int) = _; omega
      rw [if_pos k, if_pos n10', secP_y k]
      by_cases w3 : x65.toInt ≠ wt.toInt
      · rw [if_pos w3]
        obtain ⟨y, c28, c29, r1, r2⟩ := ih f (u + 1) (x65 + Int32.ofInt 1) (x66 + Int32.ofInt 1) i22 i23 i24 i25 d28 d29 (by omega) (by omega) (by omega) (by omega) (by omega)
        rw [e2] at r1 r2
        refine ⟨y, c28, c29, ?_, by rw [e]; omega⟩
        have ef : fnd wt.toInt x65.toInt (i4 (v, p) (w, u) :: secP U (v, p) (prow w m (u + 1))) (i22, i23, i24, i25) = fnd wt.toInt (x65.toInt + 1) (secP U (v, p) (prow w m (u + 1))) (i22, i23, i24, i25) := by
          show fnd wt.toInt (x65.toInt + 1) _ (if x65.toInt = wt.toInt then _ else (i22, i23, i24, i25)) = _
          rw [if_neg w3]
        rw [ef]; exact r1
      · rw [if_neg w3]
        obtain ⟨y, c28, c29, r1, r2⟩ := ih f (u + 1) (x65 + Int32.ofInt 1) (x66 + Int32.ofInt 1) x3 x49 x29 x66 d28 d29 (by omega) (by omega) (by omega) (by omega) (by omega)
        rw [e2] at r1 r2
        refine ⟨y, c28, c29, ?_, by rw [e]; omega⟩
        have ef : fnd wt.toInt x65.toInt (i4 (v, p) (w, u) :: secP U (v, p) (prow w m (u + 1))) (i22, i23, i24, i25) = fnd wt.toInt (x65.toInt + 1) (secP U (v, p) (prow w m (u + 1))) (x3, x49, x29, x66) := by
          show fnd wt.toInt (x65.toInt + 1) _ (if x65.toInt = wt.toInt then i4 (v, p) (w, u) else (i22, i23, i24, i25)) = _
          rw [if_pos (show x65.toInt = wt.toInt by omega)]
          show fnd wt.toInt (x65.toInt + 1) _ (Int32.ofNat v, Int32.ofNat w, Int32.ofNat p, Int32.ofNat u) = _
          rw [← oN hv, ← oN hw, ← oN hp, ← oN hx]
        rw [ef]; exact r1
    · rw [if_neg k, if_neg n00', secP_n k]
      obtain ⟨y, c28, c29, r1, r2⟩ := ih f (u + 1) x65 (x66 + Int32.ofInt 1) i22 i23 i24 i25 d28 d29 (by omega) (by omega) (by omega) h0 (by omega)
      exact ⟨y, c28, c29, r1, r2⟩
/-- the later VERSES -/
theorem mu47 {U : PL → PL → Bool} {np : Nat → Nat} {wt x3 x16 x29 : Int32} {v p : Nat} {a54 b34 b38 b39 b40 b41 b42 : Nat → Int32} {K : Int32 → Int32 → Int32 → Int32 → Int32 → Int32 → (Nat → Int32) → (Nat → Int32) → RUU} (h3 : i3.toInt ≤ 60) (hv : x3.toInt = (v : Int)) (hp : x29.toInt = (p : Int)) (hnp : ∀ w, v ≤ w → (w : Int) < i3.toInt → np w ≤ 7 ∧ (((a54 w).toInt = -1 ∧ np w = 0) ∨ (¬ (a54 w).toInt = -1 ∧ (((b38 (a54 w).toNatClampNeg) - (1 : Int32)).toInt = (np w : Int) ∨ (((b38 (a54 w).toNatClampNeg) - (1 : Int32)).toInt < 0 ∧ np w = 0)))))
    (hU : ∀ (w u : Nat) (x66 : Int32) (b28 b29 : Nat → Int32), v ≤ w → (w : Int) < i3.toInt → x66.toInt = (u : Int) → u < np w → ∃ d28 d29 : Nat → Int32, F_m12_isUnlike x16 x29 (a54 w) x66 day i6 i9 b2 b3 b4 b8 b15 b16 b17 b18 b19 b20 b21 b23 b24 b25 b26 b28 b29 b34 b39 b40 b41 b42 = ((if U (v, p) (w, u) = true then 1 else 0), d28, d29)) :
    ∀ (m f w : Nat) (x48 x49 i22 i23 i24 i25 : Int32) (b28 b29 : Nat → Int32), x49.toInt = (w : Int) → v < w → i3.toInt = (w : Int) + m → m < f → 0 ≤ x48.toInt → x48.toInt + 7 * m ≤ 2000000 →
    ∃ (y : Int32) (d28 d29 : Nat → Int32), f_m12_unlikes_j47 wt day i3 i6 i9 b2 b3 b4 b8 b15 b16 b17 b18 b19 b20 b21 b23 b24 b25 b26 b34 b38 b39 b40 b41 b42 x3 x16 a54 x29 K f x48 x49 i22 i23 i24 i25 b28 b29 = K y (x29 + Int32.ofInt 1) (fnd wt.toInt x48.toInt (secP U (v, p) (plc np m w)) (i22, i23, i24, i25)).1 (fnd wt.toInt x48.toInt (secP U (v, p) (plc np m w)) (i22, i23, i24, i25)).2.1 (fnd wt.toInt x48.toInt (secP U (v, p) (plc np m w)) (i22, i23, i24, i25)).2.2.1 (fnd wt.toInt x48.toInt (secP U (v, p) (plc np m w)) (i22, i23, i24, i25)).2.2.2 d28 d29 ∧ y.toInt = x48.toInt + (secP U (v, p) (plc np m w)).length ∧ y.toInt ≤ x48.toInt + 7 * m := by
  have o1 := co1
  intro m
  induction m with
  | zero =>
    intro f w x48 x49 i22 i23 i24 i25 b28 b29 hx _ hm hf _ _
    obtain ⟨f, rfl⟩ : ∃ w, f = w + 1 := ⟨f - 1, by omega⟩
    rw [S_m12_unlikes_j47, if_pos (by omega)]
    exact ⟨x48, b28, b29, rfl, by show _ = x48.toInt + ((0 : Nat) : Int); omega, by omega⟩
  | succ m ih =>
    intro f w x48 x49 i22 i23 i24 i25 b28 b29 hx hvw hm hf h0 hb
    obtain ⟨f, rfl⟩ : ∃ w, f = w + 1 := ⟨f - 1, by omega⟩
    have hx1 := toInt_add hx co1 (by omega) (by omega)
    obtain ⟨k7, kk⟩ := hnp w (by omega) (by omega)
    rw [S_m12_unlikes_j47, if_neg (by omega), if_pos (show x49.toInt ≠ x3.toInt by omega), nc hx]
    have es : secP U (v, p) (plc np (m + 1) w) = secP U (v, p) (prow w (np w) 0) ++ secP U (v, p) (plc np m (w + 1)) := secP_app _ _
    rw [es]
    rcases kk with ⟨k1, k2⟩ | ⟨k1, k2⟩
    · have e0 : secP U (v, p) (prow w (np w) 0) = [] := by rw [k2]; rfl
      rw [S_m12_unlikes_j64 (n_ := 7), if_pos k1, e0, List.nil_append]
      obtain ⟨y, d28, d29, r1, r2, r3⟩ := ih f (w + 1) x48 (x49 + Int32.ofInt 1) i22 i23 i24 i25 b28 b29 (by omega) (by omega) (by omega) (by omega) h0 (by omega)
      exact ⟨y, d28, d29, r1, r2, by omega⟩
    · obtain ⟨y, d28, d29, r1, r2⟩ := mu64 (U := U) (day := day) (i6 := i6) (i9 := i9) (b2 := b2) (b3 := b3) (b4 := b4) (b8 := b8) (b15 := b15) (b16 := b16) (b17 := b17) (b18 := b18) (b19 := b19) (b20 := b20) (b21 := b21) (b23 := b23) (b24 := b24) (b25 := b25) (b26 := b26) (wt := wt) (x16 := x16) (b34 := b34) (b39 := b39) (b40 := b40) (b41 := b41) (b42 := b42) (K := f_m12_unlikes_j47 wt day i3 i6 i9 b2 b3 b4 b8 b15 b16 b17 b18 b19 b20 b21 b23 b24 b25 b26 b34 b38 b39 b40 b41 b42 x3 x16 a54 x29 K f) hv hp hx k1 k2 (by omega) (fun u x66 b28 b29 u1 u2 => hU w u x66 b28 b29 (by omega) (by omega) u1 u2) (np w) 8 0 x48 0 i22 i23 i24 i25 b28 b29 c0 (by omega) (by omega) h0 (by omega)
      have hl := secP_len (U := U) (a := (v, p)) (prow w (np w) 0)
      rw [prow_len] at hl
      rw [r1]
      generalize secP U (v, p) (prow w (np w) 0) = A1 at r2 hl ⊢
      obtain ⟨y2, c28, c29, s1, s2, s3⟩ := ih f (w + 1) y (x49 + Int32.ofInt 1) (fnd wt.toInt x48.toInt A1 (i22, i23, i24, i25)).1 (fnd wt.toInt x48.toInt A1 (i22, i23, i24, i25)).2.1 (fnd wt.toInt x48.toInt A1 (i22, i23, i24, i25)).2.2.1 (fnd wt.toInt x48.toInt A1 (i22, i23, i24, i25)).2.2.2 d28 d29 (by omega) (by omega) (by omega) (by omega) (by omega) (by omega)
      generalize secP U (v, p) (plc np m (w + 1)) = A2 at s1 s2 ⊢
      have e : ((A1 ++ A2).length : Int) = A1.length + A2.length := by rw [List.length_append]; omega
      refine ⟨y2, c28, c29, ?_, by rw [e]; omega, by omega⟩
      rw [s1, fnd_app, r2]
/-- its own VERSE, then the later ones -/
theorem mu47v {U : PL → PL → Bool} {np : Nat → Nat} {wt x3 x16 x29 : Int32} {v p n : Nat} {a54 b34 b38 b39 b40 b41 b42 : Nat → Int32} {K : Int32 → Int32 → Int32 → Int32 → Int32 → Int32 → (Nat → Int32) → (Nat → Int32) → RUU} (h3 : i3.toInt ≤ 60) (hv : x3.toInt = (v : Int)) (hp : x29.toInt = (p : Int)) (hnp : ∀ w, v ≤ w → (w : Int) < i3.toInt → np w ≤ 7 ∧ (((a54 w).toInt = -1 ∧ np w = 0) ∨ (¬ (a54 w).toInt = -1 ∧ (((b38 (a54 w).toNatClampNeg) - (1 : Int32)).toInt = (np w : Int) ∨ (((b38 (a54 w).toNatClampNeg) - (1 : Int32)).toInt < 0 ∧ np w = 0)))))
    (hU : ∀ (w u : Nat) (x66 : Int32) (b28 b29 : Nat → Int32), v ≤ w → (w : Int) < i3.toInt → x66.toInt = (u : Int) → u < np w → ∃ d28 d29 : Nat → Int32, F_m12_isUnlike x16 x29 (a54 w) x66 day i6 i9 b2 b3 b4 b8 b15 b16 b17 b18 b19 b20 b21 b23 b24 b25 b26 b28 b29 b34 b39 b40 b41 b42 = ((if U (v, p) (w, u) = true then 1 else 0), d28, d29)) (hn : np v = p + 1 + n) {m f : Nat} {x48 i22 i23 i24 i25 : Int32} {b28 b29 : Nat → Int32} (hm : i3.toInt = (v : Int) + 1 + m) (hf : m + 1 < f) (h0 : 0 ≤ x48.toInt) (hb : x48.toInt + 7 * (m + 1) ≤ 2000000) :
    ∃ (y : Int32) (d28 d29 : Nat → Int32), f_m12_unlikes_j47 wt day i3 i6 i9 b2 b3 b4 b8 b15 b16 b17 b18 b19 b20 b21 b23 b24 b25 b26 b34 b38 b39 b40 b41 b42 x3 x16 a54 x29 K f x48 x3 i22 i23 i24 i25 b28 b29 = K y (x29 + Int32.ofInt 1) (fnd wt.toInt x48.toInt (secP U (v, p) (prow v n (p + 1) ++ plc np m (v + 1))) (i22, i23, i24, i25)).1 (fnd wt.toInt x48.toInt (secP U (v, p) (prow v n (p + 1) ++ plc np m (v + 1))) (i22, i23, i24, i25)).2.1 (fnd wt.toInt x48.toInt (secP U (v, p) (prow v n (p + 1) ++ plc np m (v + 1))) (i22, i23, i24, i25)).2.2.1 (fnd wt.toInt x48.toInt (secP U (v, p) (prow v n (p + 1) ++ plc np m (v + 1))) (i22, i23, i24, i25)).2.2.2 d28 d29 ∧ y.toInt = x48.toInt + (secP U (v, p) (prow v n (p + 1) ++ plc np m (v + 1))).length ∧ y.toInt ≤ x48.toInt + 7 * (m + 1) := by
  have o1 := co1
  obtain ⟨f, rfl⟩ : ∃ w, f = w + 1 := ⟨f - 1, by omega⟩
  have hx1 := toInt_add hv co1 (by omega) (by omega)
  obtain ⟨k7, kk⟩ := hnp v (Nat.le_refl _) (by omega)
  have hps := suc_of hp (by omega)
  rw [S_m12_unlikes_j47, if_neg (by omega), if_neg (show ¬ x3.toInt ≠ x3.toInt from fun z => z rfl), nc hv, secP_app]
  rcases kk with ⟨k1, k2⟩ | ⟨k1, k2⟩
  · omega
  · obtain ⟨y, d28, d29, r1, r2⟩ := mu106 (U := U) (day := day) (i6 := i6) (i9 := i9) (b2 := b2) (b3 := b3) (b4 := b4) (b8 := b8) (b15 := b15) (b16 := b16) (b17 := b17) (b18 := b18) (b19 := b19) (b20 := b20) (b21 := b21) (b23 := b23) (b24 := b24) (b25 := b25) (b26 := b26) (wt := wt) (x16 := x16) (b34 := b34) (b39 := b39) (b40 := b40) (b41 := b41) (b42 := b42) (K := f_m12_unlikes_j47 wt day i3 i6 i9 b2 b3 b4 b8 b15 b16 b17 b18 b19 b20 b21 b23 b24 b25 b26 b34 b38 b39 b40 b41 b42 x3 x16 a54 x29 K f) hv hp hv k1 k2 (by omega) (fun u x66 b28 b29 u1 u2 => hU v u x66 b28 b29 (Nat.le_refl _) (by omega) u1 u2) n 7 (p + 1) x48 (x29 + 1) i22 i23 i24 i25 b28 b29 (by omega) (by omega) (by omega) h0 (by omega)
    have hl := secP_len (U := U) (a := (v, p)) (prow v n (p + 1))
    rw [prow_len] at hl
    rw [r1]
    generalize secP U (v, p) (prow v n (p + 1)) = A1 at r2 hl ⊢
    obtain ⟨y2, c28, c29, s1, s2, s3⟩ := mu47 (U := U) (np := np) (day := day) (i3 := i3) (i6 := i6) (i9 := i9) (b2 := b2) (b3 := b3) (b4 := b4) (b8 := b8) (b15 := b15) (b16 := b16) (b17 := b17) (b18 := b18) (b19 := b19) (b20 := b20) (b21 := b21) (b23 := b23) (b24 := b24) (b25 := b25) (b26 := b26) (wt := wt) (x3 := x3) (x16 := x16) (x29 := x29) (K := K) h3 hv hp hnp hU m f (v + 1) y (x3 + Int32.ofInt 1) (fnd wt.toInt x48.toInt A1 (i22, i23, i24, i25)).1 (fnd wt.toInt x48.toInt A1 (i22, i23, i24, i25)).2.1 (fnd wt.toInt x48.toInt A1 (i22, i23, i24, i25)).2.2.1 (fnd wt.toInt x48.toInt A1 (i22, i23, i24, i25)).2.2.2 d28 d29 (by omega) (by omega) (by omega) (by omega) (by omega) (by omega)
    generalize secP U (v, p) (plc np m (v + 1)) = A2 at s1 s2 ⊢
    have e : ((A1 ++ A2).length : Int) = A1.length + A2.length := by rw [List.length_append]; omega
    refine ⟨y2, c28, c29, ?_, by rw [e]; omega, by omega⟩
    rw [s1, fnd_app, r2]
/-- the places of VERSE v -/
theorem mu27 {U : PL → PL → Bool} {np : Nat → Nat} {wt x3 x16 : Int32} {v : Nat} {a54 b34 b38 b39 b40 b41 b42 : Nat → Int32} {K : Int32 → Int32 → Int32 → Int32 → Int32 → Int32 → (Nat → Int32) → (Nat → Int32) → (Nat → Int32) → RUU} (h3 : i3.toInt ≤ 60) (hv : x3.toInt = (v : Int)) (hx16 : x16 = a54 v) (hx : ¬ x16.toInt = -1) (hnp : ∀ w, v ≤ w → (w : Int) < i3.toInt → np w ≤ 7 ∧ (((a54 w).toInt = -1 ∧ np w = 0) ∨ (¬ (a54 w).toInt = -1 ∧ (((b38 (a54 w).toNatClampNeg) - (1 : Int32)).toInt = (np w : Int) ∨ (((b38 (a54 w).toNatClampNeg) - (1 : Int32)).toInt < 0 ∧ np w = 0)))))
    (hU : ∀ (p : Nat) (x29 : Int32), x29.toInt = (p : Int) → p < np v → ∀ (w u : Nat) (x66 : Int32) (b28 b29 : Nat → Int32), v ≤ w → (w : Int) < i3.toInt → x66.toInt = (u : Int) → u < np w → ∃ d28 d29 : Nat → Int32, F_m12_isUnlike x16 x29 (a54 w) x66 day i6 i9 b2 b3 b4 b8 b15 b16 b17 b18 b19 b20 b21 b23 b24 b25 b26 b28 b29 b34 b39 b40 b41 b42 = ((if U (v, p) (w, u) = true then 1 else 0), d28, d29))
    {q : Nat} (hq : i3.toInt = (v : Int) + 1 + q) :
    ∀ (m f p : Nat) (x28 x29 i22 i23 i24 i25 : Int32) (b28 b29 : Nat → Int32), x29.toInt = (p : Int) → np v = p + m → m < f → 0 ≤ x28.toInt → x28.toInt + 420 * m ≤ 1000000 →
    ∃ (y : Int32) (L : List I4) (d28 d29 : Nat → Int32), f_m12_unlikes_j27 wt day i3 i6 i9 b2 b3 b4 b8 b15 b16 b17 b18 b19 b20 b21 b23 b24 b25 b26 b34 b38 b39 b40 b41 b42 x3 K x16 a54 f x28 x29 i22 i23 i24 i25 b28 b29 = K y (x3 + Int32.ofInt 1) (fnd wt.toInt x28.toInt L (i22, i23, i24, i25)).1 (fnd wt.toInt x28.toInt L (i22, i23, i24, i25)).2.1 (fnd wt.toInt x28.toInt L (i22, i23, i24, i25)).2.2.1 (fnd wt.toInt x28.toInt L (i22, i23, i24, i25)).2.2.2 d28 d29 a54 ∧ y.toInt = x28.toInt + L.length ∧ y.toInt ≤ x28.toInt + 420 * m ∧ prs U (prow v m p ++ plc np q (v + 1)) = L ++ prs U (plc np q (v + 1)) := by
  have o1 := co1
  obtain ⟨k7, kk⟩ := hnp v (Nat.le_refl _) (by omega)
  rw [← hx16] at kk
  intro m
  induction m with
  | zero =>
    intro f p x28 x29 i22 i23 i24 i25 b28 b29 hp hm hf _ _
    obtain ⟨f, rfl⟩ : ∃ w, f = w + 1 := ⟨f - 1, by omega⟩
    rw [S_m12_unlikes_j27, if_neg hx, if_pos (by omega)]
    exact ⟨x28, [], b28, b29, rfl, by show _ = x28.toInt + ((0 : Nat) : Int); omega, by omega, rfl⟩
  | succ m ih =>
    intro f p x28 x29 i22 i23 i24 i25 b28 b29 hp hm hf h0 hb
    obtain ⟨f, rfl⟩ : ∃ w, f = w + 1 := ⟨f - 1, by omega⟩
    have hx1 := toInt_add hp co1 (by omega) (by omega)
    rw [S_m12_unlikes_j27, if_neg hx, if_neg (by omega)]
    obtain ⟨y, d28, d29, r1, r2, r3⟩ := mu47v (U := U) (np := np) (day := day) (i3 := i3) (i6 := i6) (i9 := i9) (b2 := b2) (b3 := b3) (b4 := b4) (b8 := b8) (b15 := b15) (b16 := b16) (b17 := b17) (b18 := b18) (b19 := b19) (b20 := b20) (b21 := b21) (b23 := b23) (b24 := b24) (b25 := b25) (b26 := b26) (wt := wt) (x3 := x3) (x16 := x16) (x29 := x29) (K := f_m12_unlikes_j27 wt day i3 i6 i9 b2 b3 b4 b8 b15 b16 b17 b18 b19 b20 b21 b23 b24 b25 b26 b34 b38 b39 b40 b41 b42 x3 K x16 a54 f) (n := m) (m := q) (f := 61) (x48 := x28) (i22 := i22) (i23 := i23) (i24 := i24) (i25 := i25) (b28 := b28) (b29 := b29) h3 hv hp hnp (hU p x29 hp (by omega)) (by omega) hq (by omega) h0 (by omega)
    rw [r1]
    have ep := prs_row (U := U) (v := v) (R := plc np q (v + 1)) m p
    rw [← secP_app] at ep
    generalize secP U (v, p) (prow v m (p + 1) ++ plc np q (v + 1)) = A1 at r2 ep ⊢
    obtain ⟨y2, A2, c28, c29, s1, s2, s3, s4⟩ := ih f (p + 1) y (x29 + Int32.ofInt 1) (fnd wt.toInt x28.toInt A1 (i22, i23, i24, i25)).1 (fnd wt.toInt x28.toInt A1 (i22, i23, i24, i25)).2.1 (fnd wt.toInt x28.toInt A1 (i22, i23, i24, i25)).2.2.1 (fnd wt.toInt x28.toInt A1 (i22, i23, i24, i25)).2.2.2 d28 d29 (by omega) (by omega) (by omega) (by omega) (by omega)
    have e : ((A1 ++ A2).length : Int) = A1.length + A2.length := by rw [List.length_append]; omega
    refine ⟨y2, A1 ++ A2, c28, c29, ?_, by rw [e]; omega, by omega, ?_⟩
    · rw [s1, fnd_app, r2]
    · rw [ep, s4, List.append_assoc]
/-- the twos are filled first -/
theorem mu21 {wt x2 x3 x16 i22 i23 i24 i25 : Int32} {b28 b29 b34 b35 b38 b39 b40 b41 b42 : Nat → Int32} {v : Nat} {fx : Nat → Int32} {i10 : Int32} {K : Int32 → Int32 → Int32 → Int32 → Int32 → Int32 → (Nat → Int32) → (Nat → Int32) → (Nat → Int32) → RUU} (h3 : i3.toInt ≤ 60) (hx : ¬ x16.toInt = -1) (hfx : ∀ (w : Nat) (x : Int32), x.toInt = (w : Int) → (w : Int) < i3.toInt → F_m12_fixedOf x i10 b34 b35 = fx w) :
    ∀ (m f w : Nat) (x22 : Int32) (a54 : Nat → Int32), x22.toInt = (w : Int) → v ≤ w → i3.toInt = (w : Int) + m → m < f → (∀ k, v ≤ k → k < w → a54 k = fx k) →
    ∃ c54 : Nat → Int32, f_m12_unlikes_j21 wt day i3 i6 i9 i10 b2 b3 b4 b8 b15 b16 b17 b18 b19 b20 b21 b23 b24 b25 b26 b34 b35 b38 b39 b40 b41 b42 x2 x3 i22 i23 i24 i25 b28 b29 K x16 f x22 a54 = f_m12_unlikes_j27 wt day i3 i6 i9 b2 b3 b4 b8 b15 b16 b17 b18 b19 b20 b21 b23 b24 b25 b26 b34 b38 b39 b40 b41 b42 x3 K x16 c54 8 x2 0 i22 i23 i24 i25 b28 b29 ∧ ∀ k, v ≤ k → (k : Int) < i3.toInt → c54 k = fx k := by
  have o1 := co1
  intro m
  induction m with
  | zero =>
    intro f w x22 a54 hw hvw hm hf h
    obtain ⟨f, rfl⟩ : ∃ w, f = w + 1 := ⟨f - 1, by omega⟩
    rw [S_m12_unlikes_j21, if_pos (by omega)]
    exact ⟨a54, rfl, fun k k1 k2 => h k k1 (by omega)⟩
  | succ m ih =>
    intro f w x22 a54 hw hvw hm hf h
    obtain ⟨f, rfl⟩ : ∃ w, f = w + 1 := ⟨f - 1, by omega⟩
    have hx1 := toInt_add hw co1 (by omega) (by omega)
    rw [S_m12_unlikes_j21, if_neg (by omega), if_neg hx, nc hw, hfx w x22 hw (by omega)]
    refine ih f (w + 1) (x22 + Int32.ofInt 1) (upd a54 w (fx w)) (by omega) (by omega) (by omega) (by omega) (fun k k1 k2 => ?_)
    by_cases e : k = w
    · rw [e, upd_s]
    · unfold upd; rw [if_neg e]; exact h k k1 (by omega)
/-- VERSE by VERSE -/
theorem mu1 {U : PL → PL → Bool} {np : Nat → Nat} {wt i10 : Int32} {fx b34 b35 b38 b39 b40 b41 b42 : Nat → Int32} (h3 : i3.toInt ≤ 60) (hfx : ∀ (w : Nat) (x : Int32), x.toInt = (w : Int) → (w : Int) < i3.toInt → F_m12_fixedOf x i10 b34 b35 = fx w)
    (hnp : ∀ w : Nat, (w : Int) < i3.toInt → np w ≤ 7 ∧ (((fx w).toInt = -1 ∧ np w = 0) ∨ (¬ (fx w).toInt = -1 ∧ (((b38 (fx w).toNatClampNeg) - (1 : Int32)).toInt = (np w : Int) ∨ (((b38 (fx w).toNatClampNeg) - (1 : Int32)).toInt < 0 ∧ np w = 0)))))
    (hU : ∀ (v p : Nat) (x29 : Int32), x29.toInt = (p : Int) → (v : Int) < i3.toInt → p < np v → ∀ (w u : Nat) (x66 : Int32) (b28 b29 : Nat → Int32), (w : Int) < i3.toInt → x66.toInt = (u : Int) → u < np w → ∃ d28 d29 : Nat → Int32, F_m12_isUnlike (fx v) x29 (fx w) x66 day i6 i9 b2 b3 b4 b8 b15 b16 b17 b18 b19 b20 b21 b23 b24 b25 b26 b28 b29 b34 b39 b40 b41 b42 = ((if U (v, p) (w, u) = true then 1 else 0), d28, d29)) :
    ∀ (m f v : Nat) (x2 x3 i22 i23 i24 i25 : Int32) (b28 b29 a54 : Nat → Int32), x3.toInt = (v : Int) → i3.toInt = (v : Int) + m → m < f → 0 ≤ x2.toInt → x2.toInt + 2940 * m ≤ 1000000 →
    ∃ (y : Int32) (d28 d29 c54 : Nat → Int32), f_m12_unlikes_j1 wt day i3 i6 i9 i10 b2 b3 b4 b8 b15 b16 b17 b18 b19 b20 b21 b23 b24 b25 b26 b34 b35 b38 b39 b40 b41 b42 f x2 x3 i22 i23 i24 i25 b28 b29 a54 = (y, (fnd wt.toInt x2.toInt (prs U (plc np m v)) (i22, i23, i24, i25)).1, (fnd wt.toInt x2.toInt (prs U (plc np m v)) (i22, i23, i24, i25)).2.1, (fnd wt.toInt x2.toInt (prs U (plc np m v)) (i22, i23, i24, i25)).2.2.1, (fnd wt.toInt x2.toInt (prs U (plc np m v)) (i22, i23, i24, i25)).2.2.2, d28, d29, c54) ∧ y.toInt = x2.toInt + (prs U (plc np m v)).length := by
  have o1 := co1
  intro m
  induction m with
  | zero =>
    intro f v x2 x3 i22 i23 i24 i25 b28 b29 a54 hv hm hf _ _
    obtain ⟨f, rfl⟩ : ∃ w, f = w + 1 := ⟨f - 1, by omega⟩
    rw [S_m12_unlikes_j1, if_pos (by omega)]
    exact ⟨x2, b28, b29, a54, rfl, by show _ = x2.toInt + ((0 : Nat) : Int); omega⟩
  | succ m ih =>
    intro f v x2 x3 i22 i23 i24 i25 b28 b29 a54 hv hm hf h0 hb
    obtain ⟨f, rfl⟩ : ∃ w, f = w + 1 := ⟨f - 1, by omega⟩
    have hx1 := toInt_add hv co1 (by omega) (by omega)
    obtain ⟨k7, kk⟩ := hnp v (by omega)
    rw [S_m12_unlikes_j1, if_neg (by omega), hfx v x3 hv (by omega)]
    rcases kk with ⟨k1, k2⟩ | ⟨k1, k2⟩
    · have e0 : plc np (m + 1) v = plc np m (v + 1) := by
        show prow v (np v) 0 ++ plc np m (v + 1) = _
        rw [k2]; rfl
      rw [S_m12_unlikes_j21 (n_ := 60), if_neg (by omega), if_pos k1, S_m12_unlikes_j149 (n_ := 7), e0]
      exact ih f (v + 1) x2 (x3 + Int32.ofInt 1) i22 i23 i24 i25 b28 b29 a54 (by omega) (by omega) (by omega) h0 (by omega)
    · obtain ⟨c54, q1, q2⟩ := mu21 (wt := wt) (day := day) (i3 := i3) (i6 := i6) (i9 := i9) (b2 := b2) (b3 := b3) (b4 := b4) (b8 := b8) (b15 := b15) (b16 := b16) (b17 := b17) (b18 := b18) (b19 := b19) (b20 := b20) (b21 := b21) (b23 := b23) (b24 := b24) (b25 := b25) (b26 := b26) (x2 := x2) (x3 := x3) (x16 := fx v) (i22 := i22) (i23 := i23) (i24 := i24) (i25 := i25) (b28 := b28) (b29 := b29) (b38 := b38) (b39 := b39) (b40 := b40) (b41 := b41) (b42 := b42) (v := v) (K := f_m12_unlikes_j1 wt day i3 i6 i9 i10 b2 b3 b4 b8 b15 b16 b17 b18 b19 b20 b21 b23 b24 b25 b26 b34 b35 b38 b39 b40 b41 b42 f) h3 k1 hfx (m + 1) 61 v x3 a54 hv (Nat.le_refl _) (by omega) (by omega) (fun k k1 k2 => absurd k2 (by omega))
      rw [q1]
      have ev : c54 v = fx v := q2 v (Nat.le_refl _) (by omega)
      obtain ⟨y, A1, d28, d29, r1, r2, r3, r4⟩ := mu27 (U := U) (np := np) (day := day) (i3 := i3) (i6 := i6) (i9 := i9) (b2 := b2) (b3 := b3) (b4 := b4) (b8 := b8) (b15 := b15) (b16 := b16) (b17 := b17) (b18 := b18) (b19 := b19) (b20 := b20) (b21 := b21) (b23 := b23) (b24 := b24) (b25 := b25) (b26 := b26) (wt := wt) (x3 := x3) (x16 := fx v) (v := v) (a54 := c54) (K := f_m12_unlikes_j1 wt day i3 i6 i9 i10 b2 b3 b4 b8 b15 b16 b17 b18 b19 b20 b21 b23 b24 b25 b26 b34 b35 b38 b39 b40 b41 b42 f) h3 hv ev.symm k1 (fun w w1 w2 => by rw [q2 w w1 w2]; exact hnp w w2) (fun p x29 p1 p2 w u x66 b28 b29 w1 w2 u1 u2 => by rw [q2 w w1 w2]; exact hU v p x29 p1 (by omega) p2 w u x66 b28 b29 w2 u1 u2) (q := m) (by omega) (np v) 8 0 x2 0 i22 i23 i24 i25 b28 b29 c0 (by omega) (by omega) h0 (by omega)
      rw [r1]
      have ep : prs U (plc np (m + 1) v) = A1 ++ prs U (plc np m (v + 1)) := r4
      rw [ep]
      obtain ⟨y2, e28, e29, e54, s1, s2⟩ := ih f (v + 1) y (x3 + Int32.ofInt 1) (fnd wt.toInt x2.toInt A1 (i22, i23, i24, i25)).1 (fnd wt.toInt x2.toInt A1 (i22, i23, i24, i25)).2.1 (fnd wt.toInt x2.toInt A1 (i22, i23, i24, i25)).2.2.1 (fnd wt.toInt x2.toInt A1 (i22, i23, i24, i25)).2.2.2 d28 d29 c54 (by omega) (by omega) (by omega) (by omega) (by omega)
      generalize prs U (plc np m (v + 1)) = A2 at s1 s2 ⊢
      have e : ((A1 ++ A2).length : Int) = A1.length + A2.length := by rw [List.length_append]; omega
      refine ⟨y2, e28, e29, e54, ?_, by rw [e]; omega⟩
      rw [s1, fnd_app, r2]
end MUN
