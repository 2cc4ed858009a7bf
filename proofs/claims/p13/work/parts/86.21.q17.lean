/-! ASKS, on both sides: the copy, and all its answers -/
theorem row_sz {u0 u1 i3 : Int32} {r9n : Nat → Nat} {r9c : Nat → Nat → Int32} {b4 b5 : Nat → Int32} {v c : Nat} (hR : RWS r9n r9c b4 b5) (h0 : u0.toInt = (v : Int)) (h1 : u1.toInt = (c : Int)) (hv : (v : Int) < i3.toInt) (hi : i3.toInt ≤ 60) (hc : c ≤ 2) :
    Int32.ofNat (F_x9_rowOf u0 u1 i3 r9n r9c).1 = b4 (3 * v + c) := by
  have h := (row_of hR h0 h1 hv hi hc).1
  obtain ⟨⟨g1, g2⟩, _⟩ := hR (3 * v + c) (by omega)
  refine eq_of_toInt ?_
  rw [← h, Int32.toInt_ofNat_of_lt (by omega)]
theorem ranks_at : ∀ p q s : Fin 3, ((Int32.ofInt (16 * (p.1 : Int) + 4 * (q.1 : Int) + (s.1 : Int)) >>> ((4 : Int32) &&& 31)) &&& (3 : Int32)) = Int32.ofInt (p.1 : Int) ∧ ((Int32.ofInt (16 * (p.1 : Int) + 4 * (q.1 : Int) + (s.1 : Int)) >>> ((2 : Int32) &&& 31)) &&& (3 : Int32)) = Int32.ofInt (q.1 : Int) ∧ ((Int32.ofInt (16 * (p.1 : Int) + 4 * (q.1 : Int) + (s.1 : Int)) >>> ((0 : Int32) &&& 31)) &&& (3 : Int32)) = Int32.ofInt (s.1 : Int) := by decide +kernel
def FCS (b4 : Nat → Int32) (v p q s : Nat) : Int32 × Int32 := if (b4 (3 * v + p)).toInt ≤ 0 then (if (b4 (3 * v + q)).toInt ≤ 0 then (if (b4 (3 * v + s)).toInt ≤ 0 then (-1, b4 (3 * v + s)) else (Int32.ofInt (s : Int), b4 (3 * v + s))) else (Int32.ofInt (q : Int), b4 (3 * v + q))) else (Int32.ofInt (p : Int), b4 (3 * v + p))
theorem oi3 : ∀ p : Fin 3, (Int32.ofInt (p.1 : Int)).toInt = (p.1 : Int) := by decide
theorem oi3' {p : Nat} (h : p ≤ 2) : (Int32.ofInt (p : Int)).toInt = (p : Int) := oi3 ⟨p, by omega⟩
theorem n4m : (4 : Int32) + Int32.ofInt (-2) = 2 := by decide
theorem n2m : (2 : Int32) + Int32.ofInt (-2) = 0 := by decide
theorem n0m : ((0 : Int32) + Int32.ofInt (-2)).toInt < 0 := by decide
section FND
variable {u0 V i3 : Int32} {r9n : Nat → Nat} {r9c : Nat → Nat → Int32} {b4 b5 : Nat → Int32} {v p q s : Nat}
theorem fc_end {f : Nat} {x c n : Int32} (h : c.toInt ≠ -1) : f_x6_findCopy_j12 i3 u0 r9n r9c V (f + 1) x c n = (c, n) := by
  rw [S_x6_findCopy_j12]
  by_cases w : x.toInt < 0
  · rw [if_pos w]
  · rw [if_neg w, if_pos h]
theorem fd_end {f : Nat} {x c n : Int32} (h : c.toInt ≠ -1) : f_x6_findCopy_j44 i3 u0 r9n r9c (f + 1) x c n = (c, n) := by
  rw [S_x6_findCopy_j44]
  by_cases w : x.toInt < 0
  · rw [if_pos w]
  · rw [if_neg w, if_pos h]
theorem fc_of (hR : RWS r9n r9c b4 b5) (h0 : u0.toInt = (v : Int)) (hv : (v : Int) < i3.toInt) (hi : i3.toInt ≤ 60) (hp : p ≤ 2) (hq : q ≤ 2) (hs : s ≤ 2)
    (r1 : (V >>> ((4 : Int32) &&& 31)) &&& (3 : Int32) = Int32.ofInt (p : Int)) (r2 : (V >>> ((2 : Int32) &&& 31)) &&& (3 : Int32) = Int32.ofInt (q : Int)) (r3 : (V >>> ((0 : Int32) &&& 31)) &&& (3 : Int32) = Int32.ofInt (s : Int)) :
    f_x6_findCopy_j12 i3 u0 r9n r9c V 7 4 (-1) 0 = FCS b4 v p q s := by
  have m1 : ¬ ((-1 : Int32).toInt ≠ -1) := by decide
  have e1 := row_sz hR h0 (oi3' hp) hv hi hp
  have e2 := row_sz hR h0 (oi3' hq) hv hi hq
  have e3 := row_sz hR h0 (oi3' hs) hv hi hs
  have f1 := oi3' hp
  have f2 := oi3' hq
  have f3 := oi3' hs
  unfold FCS
  rw [S_x6_findCopy_j12, if_neg (show ¬ (4 : Int32).toInt < 0 by decide), if_neg m1, r1, e1, n4m]
  by_cases w1 : (b4 (3 * v + p)).toInt ≤ 0
  · rw [if_pos w1, if_pos w1, S_x6_findCopy_j12, if_neg (show ¬ (2 : Int32).toInt < 0 by decide), if_neg m1, r2, e2, n2m]
    by_cases w2 : (b4 (3 * v + q)).toInt ≤ 0
    · rw [if_pos w2, if_pos w2, S_x6_findCopy_j12, if_neg (show ¬ (0 : Int32).toInt < 0 by decide), if_neg m1, r3, e3]
      by_cases w3 : (b4 (3 * v + s)).toInt ≤ 0
      · rw [if_pos w3, if_pos w3, S_x6_findCopy_j12, if_pos n0m]
      · rw [if_neg w3, if_neg w3, fc_end (by omega)]
    · rw [if_neg w2, if_neg w2, fc_end (by omega)]
  · rw [if_neg w1, if_neg w1, fc_end (by omega)]
theorem fd_of (hR : RWS r9n r9c b4 b5) (h0 : u0.toInt = (v : Int)) (hv : (v : Int) < i3.toInt) (hi : i3.toInt ≤ 60) :
    f_x6_findCopy_j44 i3 u0 r9n r9c 7 4 (-1) 0 = FCS b4 v 0 1 2 := by
  have m1 : ¬ ((-1 : Int32).toInt ≠ -1) := by decide
  have r1 : ((6 : Int32) >>> ((4 : Int32) &&& 31)) &&& (3 : Int32) = Int32.ofInt ((0 : Nat) : Int) := by decide
  have r2 : ((6 : Int32) >>> ((2 : Int32) &&& 31)) &&& (3 : Int32) = Int32.ofInt ((1 : Nat) : Int) := by decide
  have r3 : ((6 : Int32) >>> ((0 : Int32) &&& 31)) &&& (3 : Int32) = Int32.ofInt ((2 : Nat) : Int) := by decide
  have e1 := row_sz (c := 0) hR h0 (oi3' (by omega)) hv hi (by omega)
  have e2 := row_sz (c := 1) hR h0 (oi3' (by omega)) hv hi (by omega)
  have e3 := row_sz (c := 2) hR h0 (oi3' (by omega)) hv hi (by omega)
  have f1 := oi3' (p := 0) (by omega)
  have f2 := oi3' (p := 1) (by omega)
  have f3 := oi3' (p := 2) (by omega)
  unfold FCS
  rw [S_x6_findCopy_j44, if_neg (show ¬ (4 : Int32).toInt < 0 by decide), if_neg m1, r1, e1, n4m]
  by_cases w1 : (b4 (3 * v + 0)).toInt ≤ 0
  · rw [if_pos w1, if_pos w1, S_x6_findCopy_j44, if_neg (show ¬ (2 : Int32).toInt < 0 by decide), if_neg m1, r2, e2, n2m]
    by_cases w2 : (b4 (3 * v + 1)).toInt ≤ 0
    · rw [if_pos w2, if_pos w2, S_x6_findCopy_j44, if_neg (show ¬ (0 : Int32).toInt < 0 by decide), if_neg m1, r3, e3]
      by_cases w3 : (b4 (3 * v + 2)).toInt ≤ 0
      · rw [if_pos w3, if_pos w3, S_x6_findCopy_j44, if_pos n0m]
      · rw [if_neg w3, if_neg w3, fd_end (by omega)]
    · rw [if_neg w2, if_neg w2, fd_end (by omega)]
  · rw [if_neg w1, if_neg w1, fd_end (by omega)]
end FND
theorem idx3c {p0 : Int32} {v : Nat} (h : p0.toInt = (v : Int)) (hv : v < 60) : ((3 : Int32) * p0 + 0).toNatClampNeg = 3 * v + 0 ∧ ((3 : Int32) * p0 + 1).toNatClampNeg = 3 * v + 1 ∧ ((3 : Int32) * p0 + 2).toNatClampNeg = 3 * v + 2 :=
  ⟨nc (idx3 h (c := 0) c0 hv (by omega)).2, nc (idx3 h (c := 1) c1 hv (by omega)).2, nc (idx3 h (c := 2) (by decide) hv (by omega)).2⟩
section ASK
variable {v day i3 i6 i9 i20 : Int32} {a18 a19 a20 a21 a22 a23 a24 a25 b2 b4 b5 b8 b15 b16 b17 b18 b19 b20 b21 b22 : Nat → Int32} {r9n : Nat → Nat} {r9c : Nat → Nat → Int32}
theorem hund_of {u : Int32} (hu : u.toInt = 0 ∨ u.toInt = 1) (h9 : 0 ≤ i9.toInt ∧ i9.toInt ≤ 20) (hF : FRC v day i6 i9 b2 b8 b15 b16 b17 i20) (hL : LAW i9 a18 a19 a20 a21 a22 a23 a24 a25 b15 b16 b17 b18 b19 b20 b21 b22) :
    F_x6_hundredths u i9 i20 a21 a22 a23 a25 = F_m12_neededAt u v day i6 i9 b2 b8 b15 b16 b17 b18 b19 b20 b21 := by
  have ck : (118 : Int32).toInt = 118 := by decide
  obtain ⟨e, l⟩ := last_of (kind := 118) (subj := u) (Or.inl ck) h9 hF hL
  rw [E_x6_hundredths, E_m12_neededAt, e]
  clear e
  generalize F_m12_lastOf 118 u v day i6 i9 b2 b8 b15 b16 b17 b18 b19 b20 = r at l ⊢
  rcases l with l | ⟨i, j, h1, h2, h3, h4, h5⟩
  · rw [if_neg (by omega), if_neg (by omega)]
  · obtain ⟨_, _, _, _, ⟨g1, g2⟩, l6⟩ := hL i h1
    obtain ⟨_, _, d3, _⟩ := l6 (16 * i + j) (by omega) (by omega)
    rw [if_pos (by omega), if_pos (by omega), E_x2_value, xnum1 (by omega), if_neg n10, nc h3]
    exact eq_of_toInt (d3 (by omega)).2.2.1
theorem days_of (h9 : 0 ≤ i9.toInt ∧ i9.toInt ≤ 20) (hF : FRC v day i6 i9 b2 b8 b15 b16 b17 i20) (hL : LAW i9 a18 a19 a20 a21 a22 a23 a24 a25 b15 b16 b17 b18 b19 b20 b21 b22) :
    F_x6_restDays i9 i20 a21 a22 a23 a25 = F_m12_daysOf v day i6 i9 b2 b8 b15 b16 b17 b18 b19 b20 := by
  have ck : (111 : Int32).toInt = 111 := by decide
  obtain ⟨e, l⟩ := last_of (kind := 111) (subj := 0) (Or.inr ⟨Or.inr ck, c0⟩) h9 hF hL
  rw [E_x6_restDays, E_m12_daysOf, e]
  clear e
  generalize F_m12_lastOf 111 0 v day i6 i9 b2 b8 b15 b16 b17 b18 b19 b20 = r at l ⊢
  rcases l with l | ⟨i, j, h1, h2, h3, h4, h5⟩
  · rw [if_neg (by omega), if_neg (by omega)]
  · obtain ⟨_, _, _, _, ⟨g1, g2⟩, l6⟩ := hL i h1
    obtain ⟨_, _, _, d4, _⟩ := l6 (16 * i + j) (by omega) (by omega)
    rw [if_pos (by omega), if_pos (by omega), E_x2_value, xnum1 (by omega), if_neg n10, nc h3]
    exact eq_of_toInt (d4 (by omega)).2
def CPY (b4 : Nat → Int32) (v : Nat) (t : Int32 × Int32) (r : Int32) : Prop := t.1 = r ∧ ((r.toInt = -1 ∧ t.2.toInt = 0) ∨ (r.toInt = 0 ∧ t.2 = b4 (3 * v + 0) ∧ 0 < (b4 (3 * v + 0)).toInt) ∨ (r.toInt = 1 ∧ t.2 = b4 (3 * v + 1) ∧ 0 < (b4 (3 * v + 1)).toInt) ∨ (r.toInt = 2 ∧ t.2 = b4 (3 * v + 2) ∧ 0 < (b4 (3 * v + 2)).toInt))
theorem fcs_012 {b4 : Nat → Int32} {v : Nat} (h0 : 0 ≤ (b4 (3 * v + 0)).toInt) (h1 : 0 ≤ (b4 (3 * v + 1)).toInt) (h2 : 0 ≤ (b4 (3 * v + 2)).toInt) : ∀ p q s : Fin 3, CPY b4 v (FCS b4 v p.1 q.1 s.1) (if (b4 (3 * v + p.1)).toInt ≤ 0 then (if (b4 (3 * v + q.1)).toInt ≤ 0 then (if (b4 (3 * v + s.1)).toInt ≤ 0 then (-1 : Int32) else Int32.ofInt (s.1 : Int)) else Int32.ofInt (q.1 : Int)) else Int32.ofInt (p.1 : Int)) := by
  have K : ∀ p : Fin 3, ¬ (b4 (3 * v + p.1)).toInt ≤ 0 → CPY b4 v (Int32.ofInt (p.1 : Int), b4 (3 * v + p.1)) (Int32.ofInt (p.1 : Int)) := by
    intro p hp
    refine ⟨rfl, Or.inr ?_⟩
    have e := oi3 p
    rcases (show p.1 = 0 ∨ p.1 = 1 ∨ p.1 = 2 by omega) with h | h | h
    · rw [h] at e hp ⊢; exact Or.inl ⟨e, rfl, by omega⟩
    · rw [h] at e hp ⊢; exact Or.inr (Or.inl ⟨e, rfl, by omega⟩)
    · rw [h] at e hp ⊢; exact Or.inr (Or.inr ⟨e, rfl, by omega⟩)
  have P : ∀ p : Fin 3, 0 ≤ (b4 (3 * v + p.1)).toInt := by
    intro p
    rcases (show p.1 = 0 ∨ p.1 = 1 ∨ p.1 = 2 by omega) with h | h | h
    · rw [h]; exact h0
    · rw [h]; exact h1
    · rw [h]; exact h2
  intro p q s
  unfold FCS
  by_cases w1 : (b4 (3 * v + p.1)).toInt ≤ 0
  · rw [if_pos w1, if_pos w1]
    by_cases w2 : (b4 (3 * v + q.1)).toInt ≤ 0
    · rw [if_pos w2, if_pos w2]
      by_cases w3 : (b4 (3 * v + s.1)).toInt ≤ 0
      · rw [if_pos w3, if_pos w3]
        have := P s
        exact ⟨rfl, Or.inl ⟨by decide, by show (b4 (3 * v + s.1)).toInt = 0; omega⟩⟩
      · rw [if_neg w3, if_neg w3]; exact K s w3
    · rw [if_neg w2, if_neg w2]; exact K q w2
  · rw [if_neg w1, if_neg w1]; exact K p w1
theorem copy_of {w : Nat} (hv : v.toInt = (w : Int)) (hv2 : (w : Int) < i3.toInt) (hi3 : i3.toInt ≤ 60) (h9 : 0 ≤ i9.toInt ∧ i9.toInt ≤ 20) (hF : FRC v day i6 i9 b2 b8 b15 b16 b17 i20) (hL : LAW i9 a18 a19 a20 a21 a22 a23 a24 a25 b15 b16 b17 b18 b19 b20 b21 b22) (hK : KI i9 b18 b19 b20 b21 b22) (hR : RWS r9n r9c b4 b5) :
    CPY b4 w (F_x6_findCopy i3 i9 v i20 a21 a22 a23 a25 r9n r9c) (F_m12_copyOf v day i6 i9 b2 b4 b8 b15 b16 b17 b18 b19 b20 b21) := by
  have ck : (107 : Int32).toInt = 107 := by decide
  obtain ⟨e, l⟩ := last_of (kind := 107) (subj := 0) (Or.inr ⟨Or.inl ck, c0⟩) h9 hF hL
  obtain ⟨i0, i1, i2⟩ := idx3c hv (by omega)
  have FC := @fcs_012 b4 w (hR (3 * w + 0) (by omega)).1.1 (hR (3 * w + 1) (by omega)).1.1 (hR (3 * w + 2) (by omega)).1.1
  rw [E_x6_findCopy, E_m12_copyOf, e, i0, i1, i2]
  clear e i0 i1 i2
  generalize F_m12_lastOf 107 0 v day i6 i9 b2 b8 b15 b16 b17 b18 b19 b20 = r at l ⊢
  rcases l with l | ⟨i, j, h1, h2, h3, h4, h5⟩
  · rw [if_neg (by omega), if_neg (by omega), fd_of hR hv hv2 hi3]
    exact FC 0 1 2
  · obtain ⟨_, _, _, _, ⟨g1, g2⟩, l6⟩ := hL i h1
    obtain ⟨_, d2, _⟩ := l6 (16 * i + j) (by omega) (by omega)
    obtain ⟨_, _, _, _, d3⟩ := d2 (by omega)
    obtain ⟨k1, k2, k3, k4, k5, k6⟩ := hK i j h1 h2 (by omega)
    rw [if_pos (by omega), if_pos (by omega), E_x2_value, xnum1 (by omega), if_neg n10, nc h3]
    have go : ∀ p q s : Fin 3, (b20 (16 * i + j)).toInt = (p.1 : Int) → (b21 (16 * i + j)).toInt = (q.1 : Int) → (b22 (16 * i + j)).toInt = (s.1 : Int) → f_x6_findCopy_j12 i3 v r9n r9c (a25 (16 * i + j)) 7 4 (-1) 0 = FCS b4 w p.1 q.1 s.1 := by
      intro p q s hp hq hs
      have ea : a25 (16 * i + j) = Int32.ofInt (16 * (p.1 : Int) + 4 * (q.1 : Int) + (s.1 : Int)) := by
        rw [← hp, ← hq, ← hs, ← d3, Int32.ofInt_toInt]
      obtain ⟨r1, r2, r3⟩ := ranks_at p q s
      exact fc_of hR hv hv2 hi3 (by omega) (by omega) (by omega) (by rw [ea]; exact r1) (by rw [ea]; exact r2) (by rw [ea]; exact r3)
    rcases (show (b20 (16 * i + j)).toInt = 0 ∨ (b20 (16 * i + j)).toInt = 1 ∨ (b20 (16 * i + j)).toInt = 2 by omega) with p | p | p
    · rw [if_pos p]
      rcases (show (b21 (16 * i + j)).toInt = 1 ∨ (b21 (16 * i + j)).toInt = 2 by omega) with q | q
      · rw [if_pos q, go 0 1 2 p q (show _ = (2 : Int) by omega)]
        exact FC 0 1 2
      · rw [if_neg (by omega), go 0 2 1 p q (show _ = (1 : Int) by omega)]
        exact FC 0 2 1
    · rw [if_neg (show ¬ (b20 (16 * i + j)).toInt = 0 by omega), if_pos p]
      rcases (show (b21 (16 * i + j)).toInt = 0 ∨ (b21 (16 * i + j)).toInt = 2 by omega) with q | q
      · rw [if_pos q, go 1 0 2 p q (show _ = (2 : Int) by omega)]
        exact FC 1 0 2
      · rw [if_neg (by omega), go 1 2 0 p q (show _ = (0 : Int) by omega)]
        exact FC 1 2 0
    · rw [if_neg (show ¬ (b20 (16 * i + j)).toInt = 0 by omega), if_neg (show ¬ (b20 (16 * i + j)).toInt = 1 by omega)]
      rcases (show (b21 (16 * i + j)).toInt = 0 ∨ (b21 (16 * i + j)).toInt = 1 by omega) with q | q
      · rw [if_pos q, go 2 0 1 p q (show _ = (1 : Int) by omega)]
        exact FC 2 0 1
      · rw [if_neg (by omega), go 2 1 0 p q (show _ = (0 : Int) by omega)]
        exact FC 2 1 0
end ASK
theorem R_asks {u0 u1 u2 i3 i6 i9 i17 i18 i19 i20 i21 i22 i23 i24 : Int32} {a7 a8 a13 a18 a19 a20 a21 a22 a23 a24 a25 b2 b4 b5 b8 b15 b16 b17 b18 b19 b20 b21 b22 : Nat → Int32} {r9n : Nat → Nat} {r9c : Nat → Nat → Int32}
    (hv : 0 ≤ i3.toInt ∧ i3.toInt ≤ 60) (h6 : 0 ≤ i6.toInt ∧ i6.toInt ≤ 6) (h9 : 0 ≤ i9.toInt ∧ i9.toInt ≤ 20) (hV : VRS i3 a7 b2) (hP : PPL i6 a13 b8) (hL : LAW i9 a18 a19 a20 a21 a22 a23 a24 a25 b15 b16 b17 b18 b19 b20 b21 b22) (hK : KI i9 b18 b19 b20 b21 b22) (hR : RWS r9n r9c b4 b5) :
    (F_x11_asks u0 u1 u2 i3 i6 i9 i17 i18 i19 i20 i21 i22 i23 i24 a7 a8 a13 a18 a19 a20 a21 a22 a23 a25 r9n r9c).1 = F_m12_asks u0 u1 u2 i3 i6 i9 b2 b4 b8 b15 b16 b17 b18 b19 b20 b21 := by
  rw [E_x11_asks, E_m12_asks]
  rcases xhas (u := u0) (i3 := i3) with ⟨h1, h⟩ | ⟨h1, h⟩
  · rcases mver (u := u0) (i2 := i3) hv.1 with ⟨_, g⟩ | ⟨g1, _⟩
    · rw [h, g, if_neg n10, if_neg n10]
      rcases xday (u := u1) with ⟨k1, k⟩ | ⟨k1, k⟩
      · rcases mday (u := u1) with ⟨_, l⟩ | ⟨l1, _⟩
        · rw [k, l, if_pos y10, if_pos y10]
          obtain ⟨w, hw⟩ : ∃ w : Nat, u0.toInt = (w : Int) := ⟨u0.toInt.toNat, by omega⟩
          obtain ⟨v1, v2, v3⟩ := hV w (by omega)
          have eb : F_x9_bookOf u0 i3 a7 = b2 u0.toNatClampNeg := by
            rw [E_x9_bookOf, h, if_neg n10, nc hw, v1]
          have ec : F_x4_companyOf (F_x9_bookOf u0 i3 a7) i6 a13 = F_m12_companyOf u0 i6 b2 b8 := by
            rw [eb]
            exact com_of hP (by rw [nc hw]; exact ⟨v2, v3⟩) h6
          obtain ⟨z20, q1, q2⟩ := aim_loop (v := u0) (day := u1) (i3 := i3) (i6 := i6) (v1 := F_x9_bookOf u0 i3 a7) (v5 := F_x9_measureOf u0 i3 a8) (b2 := b2) (b8 := b8) (r9n := r9n) (r9c := r9c) h9 hL i9.toInt.toNat 21 0 0 0 c0 (by omega) (by omega) (fun y y1 y2 => by omega) (fun j _ => qI_0 j)
          have ea : F_x6_aim u0 u1 i3 i6 i9 a7 a8 a13 a18 a19 a20 a21 a22 a23 a25 r9n r9c = (u0, u1, F_m12_companyOf u0 i6 b2 b8, z20, (F_x6_findCopy i3 i9 u0 z20 a21 a22 a23 a25 r9n r9c).1, (F_x6_findCopy i3 i9 u0 z20 a21 a22 a23 a25 r9n r9c).2, F_x9_bookOf u0 i3 a7, F_x9_measureOf u0 i3 a8) := by
            rw [E_x6_aim, ec]
            exact q1
          have CP := copy_of (day := u1) (i6 := i6) (b2 := b2) (b8 := b8) hw (by omega) hv.2 h9 q2 hL hK hR
          rw [ea]
          by_cases w0 : u2.toInt = 0
          · rw [if_pos w0, if_pos w0]
            show F_x6_hundredths u2 i9 z20 a21 a22 a23 a25 = _
            rw [hund_of (v := u0) (day := u1) (i6 := i6) (b2 := b2) (b8 := b8) (Or.inl w0) h9 q2 hL, show u2 = 0 from eq_of_toInt (w0.trans c0.symm)]
          · rw [if_neg w0, if_neg w0]
            by_cases w1 : u2.toInt = 1
            · rw [if_pos w1, if_pos w1]
              show F_x6_hundredths u2 i9 z20 a21 a22 a23 a25 = _
              rw [hund_of (v := u0) (day := u1) (i6 := i6) (b2 := b2) (b8 := b8) (Or.inr w1) h9 q2 hL, show u2 = 1 from eq_of_toInt (w1.trans c1.symm)]
            · rw [if_neg w1, if_neg w1]
              by_cases w2 : u2.toInt = 2
              · rw [if_pos w2, if_pos w2]
                exact days_of h9 q2 hL
              · rw [if_neg w2, if_neg w2]
                by_cases w3 : u2.toInt = 3
                · rw [if_pos w3, if_pos w3]
                  exact CP.1
                · rw [if_neg w3, if_neg w3]
                  by_cases w4 : u2.toInt = 4
                  · rw [if_pos w4, if_pos w4]
                    obtain ⟨i0, i1, i2⟩ := idx3c hw (by omega)
                    obtain ⟨_, cp⟩ := CP
                    show (F_x6_findCopy i3 i9 u0 z20 a21 a22 a23 a25 r9n r9c).2 = _
                    rw [E_m12_tokensOf, i0, i1, i2]
                    clear i0 i1 i2 ea eb ec q1 q2
                    generalize F_m12_copyOf u0 u1 i6 i9 b2 b4 b8 b15 b16 b17 b18 b19 b20 b21 = r at cp ⊢
                    generalize (F_x6_findCopy i3 i9 u0 z20 a21 a22 a23 a25 r9n r9c).2 = rr at cp ⊢
                    rcases cp with ⟨p1, p2⟩ | ⟨p1, p2, _⟩ | ⟨p1, p2, _⟩ | ⟨p1, p2, _⟩
                    · rw [if_neg (by omega)]; exact eq_of_toInt (p2.trans c0.symm)
                    · rw [if_pos (by omega), if_pos p1]; exact p2
                    · rw [if_pos (by omega), if_neg (by omega), if_pos p1]; exact p2
                    · rw [if_pos (by omega), if_neg (by omega), if_neg (by omega)]; exact p2
                  · rw [if_neg w4, if_neg w4]
                    by_cases w5 : u2.toInt = 5
                    · rw [if_pos w5, if_pos w5]
                      rfl
                    · rw [if_neg w5, if_neg w5]
        · exact absurd k1 l1
      · rcases mday (u := u1) with ⟨l1, _⟩ | ⟨_, l⟩
        · exact absurd l1 k1
        · rw [k, l, if_neg n00, if_neg n00]
    · exact absurd h1 g1
  · rcases mver (u := u0) (i2 := i3) hv.1 with ⟨g1, _⟩ | ⟨_, g⟩
    · exact absurd g1 h1
    · rw [h, g, if_pos y00, if_pos y00]
