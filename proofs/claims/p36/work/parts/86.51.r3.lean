/-! both sides after any calls: rates -/
theorem E_x11_centre {u0 : Int32} {i5 : Int32} : F_x11_centre u0 i5 = if (F_x11_isRate u0).toInt ≠ 0 then ((1 : Int32), (F_x4_setCentreRate u0)) else ((0 : Int32), i5) := rfl
theorem E_m12_centre {p0 : Int32} {i8 : Int32} : F_m12_centre p0 i8 = if (F_m12_lies p0 (0 : Int32) (99 : Int32)).toInt ≠ 0 then ((1 : Int32), p0) else ((0 : Int32), i8) := rfl
theorem R3_0 : RRT 0 0 0 (fun _ => 0) (fun _ => 0) := by
  refine ⟨rfl, by decide, fun c hc => ?_⟩
  have z := c0
  exact absurd hc (by omega)
theorem R_centre {u0 i5 : Int32} (h : 0 ≤ i5.toInt ∧ i5.toInt ≤ 99) : F_x11_centre u0 i5 = F_m12_centre u0 i5 ∧ 0 ≤ (F_m12_centre u0 i5).2.toInt ∧ (F_m12_centre u0 i5).2.toInt ≤ 99 := by
  have c99 : (99 : Int32).toInt = 99 := by decide
  have rt : F_x11_isRate u0 = if u0.toInt < 0 then (0 : Int32) else (if u0.toInt > 99 then (0 : Int32) else (1 : Int32)) := rfl
  rw [E_x11_centre, E_m12_centre, rt]
  rcases mlie (u := u0) c0 c99 with ⟨g1, g⟩ | ⟨g1, g⟩
  · rw [g, if_pos y10, if_neg (show ¬ u0.toInt < 0 by omega), if_neg (show ¬ u0.toInt > 99 by omega), if_pos y10]
    exact ⟨rfl, g1⟩
  · rw [g, if_neg n00]
    by_cases w : u0.toInt < 0
    · rw [if_pos w, if_neg n00]; exact ⟨rfl, h⟩
    · rw [if_neg w, if_pos (show u0.toInt > 99 by omega), if_neg n00]; exact ⟨rfl, h⟩
theorem R3_company {i5 i6 j8 i0 i1 i2 i3 i7 i8 i9 i10 j0 j1 j2 j3 j4 j5 j6 j7 u0 u1 v1 ni6 v2 nj4 : Int32} {a14 b9 a1 a4 a5 a7 a13 a18 a19 a20 a21 a22 a23 a24 a25 b1 b2 b4 b5 b8 b12 b13 b14 b15 b16 b17 b18 b19 b20 b21 b22 na13 na14 nb8 nb9 : Nat → Int32} {r9n : Nat → Nat} {r9c : Nat → Nat → Int32} (hr : RRT i5 i6 j8 a14 b9) (hR : R1 i0 i1 i2 i3 i6 i7 i8 i9 i10 a1 a4 a5 a7 a13 a18 a19 a20 a21 a22 a23 a24 a25 r9n r9c j0 j1 j2 j3 j4 j5 j6 j7 b1 b2 b4 b5 b8 b12 b13 b14 b15 b16 b17 b18 b19 b20 b21 b22) (hR1 : R1 i0 i1 i2 i3 ni6 i7 i8 i9 i10 a1 a4 a5 a7 na13 a18 a19 a20 a21 a22 a23 a24 a25 r9n r9c j0 j1 j2 j3 nj4 j5 j6 j7 b1 b2 b4 b5 nb8 b12 b13 b14 b15 b16 b17 b18 b19 b20 b21 b22) (e0 : v1 = (F_x11_company u0 u1 i6 a13 a14).1) (e1 : ni6 = (F_x11_company u0 u1 i6 a13 a14).2.1) (e2 : na13 = (F_x11_company u0 u1 i6 a13 a14).2.2.1) (e3 : na14 = (F_x11_company u0 u1 i6 a13 a14).2.2.2) (f0 : v2 = (F_m12_company u0 u1 j4 b8 b9).1) (f1 : nj4 = (F_m12_company u0 u1 j4 b8 b9).2.1) (f2 : nb8 = (F_m12_company u0 u1 j4 b8 b9).2.2.1) (f3 : nb9 = (F_m12_company u0 u1 j4 b8 b9).2.2.2) : RRT i5 ni6 j8 na14 nb9 := by
  obtain ⟨⟨q0, q1, q2, q3, q6, q7, q9, q10⟩, ⟨g0, g1, g2, g3, g6, g7, g9, g10⟩, T, W, V, R, P, D, L⟩ := hR
  subst q0 q1 q2 q3 q6 q7 q9 q10
  obtain ⟨⟨-, -, -, -, q6', -⟩, -⟩ := hR1
  obtain ⟨p5, p0, pr⟩ := hr
  have r := R_company (u0 := u0) (u1 := u1) (a14 := a14) (b9 := b9) g6 P
  replace e1 := e1.symm
  subst e1
  replace e3 := e3.symm
  subst e3
  replace f3 := f3.symm
  subst f3
  exact ⟨p5, p0, r.2.2.2.2.2 pr⟩
theorem R3_centre {i5 i6 j8 i0 i1 i2 i3 i7 i8 i9 i10 j0 j1 j2 j3 j4 j5 j6 j7 u0 v1 ni5 v2 nj8 : Int32} {a14 b9 a1 a4 a5 a7 a13 a18 a19 a20 a21 a22 a23 a24 a25 b1 b2 b4 b5 b8 b12 b13 b14 b15 b16 b17 b18 b19 b20 b21 b22 : Nat → Int32} {r9n : Nat → Nat} {r9c : Nat → Nat → Int32} (hr : RRT i5 i6 j8 a14 b9) (hR : R1 i0 i1 i2 i3 i6 i7 i8 i9 i10 a1 a4 a5 a7 a13 a18 a19 a20 a21 a22 a23 a24 a25 r9n r9c j0 j1 j2 j3 j4 j5 j6 j7 b1 b2 b4 b5 b8 b12 b13 b14 b15 b16 b17 b18 b19 b20 b21 b22) (e0 : v1 = (F_x11_centre u0 i5).1) (e1 : ni5 = (F_x11_centre u0 i5).2) (f0 : v2 = (F_m12_centre u0 j8).1) (f1 : nj8 = (F_m12_centre u0 j8).2) : v1.toInt = v2.toInt ∧ RRT ni5 i6 nj8 a14 b9 := by
  obtain ⟨p5, p0, pr⟩ := hr
  subst p5
  have r := R_centre (u0 := u0) p0
  replace e0 := e0.symm
  subst e0
  replace e1 := e1.symm
  subst e1
  replace f0 := f0.symm
  subst f0
  replace f1 := f1.symm
  subst f1
  refine ⟨by rw [r.1], by rw [r.1], ?_, pr⟩
  rw [r.1]
  exact r.2
theorem R3_judge {i5 i6 j8 i0 i1 i2 i3 i7 i8 i9 i10 j0 j1 j2 j3 j4 j5 j6 j7 i4 i11 j18 u0 j28 j29 v1 ni33 v2 nj28 nj29 : Int32} {a14 b9 a1 a4 a5 a7 a13 a18 a19 a20 a21 a22 a23 a24 a25 b1 b2 b4 b5 b8 b12 b13 b14 b15 b16 b17 b18 b19 b20 b21 b22 a15 a29 a30 a31 a32 b10 b11 b33 b34 b35 b36 b37 b38 b39 b40 b41 b42 b43 b44 b45 b46 b47 b48 b49 b50 b51 b52 b53 a51 a52 a53 b64 b65 b66 na51 na52 na53 nb64 nb65 nb66 : Nat → Int32} {r9n : Nat → Nat} {r9c og : Nat → Nat → Int32} {ogn : Nat → Nat → Nat} {ogc : Nat → Nat → Nat → Int32} (hr : RRT i5 i6 j8 a14 b9) (hR : R1 i0 i1 i2 i3 i6 i7 i8 i9 i10 a1 a4 a5 a7 a13 a18 a19 a20 a21 a22 a23 a24 a25 r9n r9c j0 j1 j2 j3 j4 j5 j6 j7 b1 b2 b4 b5 b8 b12 b13 b14 b15 b16 b17 b18 b19 b20 b21 b22) (hh : R2 i3 i4 i6 i7 i10 i11 j18 a15 a29 a30 a31 a32 b2 b8 b10 b11 b12 b33 b34 b35 b36 b37 b38 b39 b40 b41 b42 b43 b44 b45 b46 b47 b48 b49 b50 b51 b52 b53 og ogn ogc) (e0 : v1 = (F_x11_judge u0 i3 i5 i6 a7 a13 a14 a29 a51 a52 a53).1) (e1 : ni33 = (F_x11_judge u0 i3 i5 i6 a7 a13 a14 a29 a51 a52 a53).2.1) (e2 : na51 = (F_x11_judge u0 i3 i5 i6 a7 a13 a14 a29 a51 a52 a53).2.2.1) (e3 : na52 = (F_x11_judge u0 i3 i5 i6 a7 a13 a14 a29 a51 a52 a53).2.2.2.1) (e4 : na53 = (F_x11_judge u0 i3 i5 i6 a7 a13 a14 a29 a51 a52 a53).2.2.2.2) (f0 : v2 = (F_m12_judge u0 j2 j4 j7 j8 j28 j29 b2 b8 b9 b34 b35 b64 b65 b66).1) (f1 : nj28 = (F_m12_judge u0 j2 j4 j7 j8 j28 j29 b2 b8 b9 b34 b35 b64 b65 b66).2.1) (f2 : nj29 = (F_m12_judge u0 j2 j4 j7 j8 j28 j29 b2 b8 b9 b34 b35 b64 b65 b66).2.2.1) (f3 : nb64 = (F_m12_judge u0 j2 j4 j7 j8 j28 j29 b2 b8 b9 b34 b35 b64 b65 b66).2.2.2.1) (f4 : nb65 = (F_m12_judge u0 j2 j4 j7 j8 j28 j29 b2 b8 b9 b34 b35 b64 b65 b66).2.2.2.2.1) (f5 : nb66 = (F_m12_judge u0 j2 j4 j7 j8 j28 j29 b2 b8 b9 b34 b35 b64 b65 b66).2.2.2.2.2) : v1.toInt = v2.toInt := by
  obtain ⟨⟨q0, q1, q2, q3, q6, q7, q9, q10⟩, ⟨g0, g1, g2, g3, g6, g7, g9, g10⟩, T, W, V, R, P, D, L⟩ := hR
  subst q0 q1 q2 q3 q6 q7 q9 q10
  obtain ⟨M, C, S, K, V2, Cs, Sd, X, E, E2⟩ := hh
  have r := R_judge (u0 := u0) (j28 := j28) (j29 := j29) (a51 := a51) (a52 := a52) (a53 := a53) (b64 := b64) (b65 := b65) (b66 := b66) g3 g6 g10 X V P hr
  replace e0 := e0.symm
  subst e0
  replace f0 := f0.symm
  subst f0
  rw [r]
