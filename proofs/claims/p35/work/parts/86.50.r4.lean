/-! both sides after any calls: spelled words -/
def R4 (i2 i10 : Int32) (a4 a5 b6 b7 b40 b41 : Nat → Int32) : Prop := WSP i2 a4 a5 b6 b7 ∧ WLT i2 i10 b40 b41
theorem R4_0 : R4 0 0 (fun _ => 0) (fun _ => 0) (fun _ => 0) (fun _ => 0) (fun _ => 0) (fun _ => 0) := by
  have z := c0
  refine ⟨⟨fun e w _ h => ?_, fun _ _ _ _ _ => z⟩, fun r h => ?_⟩
  · exact absurd h (by omega)
  · exact absurd h (by omega)
theorem NEW_WLT {r : Nat} {i2 i3 i10 j10 : Int32} {og og' : Nat → Nat → Int32} {ogn ogn' : Nat → Nat → Nat} {ogc ogc' : Nat → Nat → Nat → Int32} {b33 b34 b36 b37 b38 b39 b40 b41 b42 b43 b46 c33 c34 c36 c37 c38 c39 c40 c41 c42 c43 c46 : Nat → Int32} (hn : NEWR r i2 i3 og ogn ogc b33 b34 b36 b37 b38 b39 b40 b41 b42 b43 b46 og' ogn' ogc' c33 c34 c36 c37 c38 c39 c40 c41 c42 c43 c46) (h : WLT i2 i10 b40 b41) (hC : RNC i10 og ogn ogc b33 b34 b36 b37 b38 b39 b40 b41 b42) (hi : i10.toInt = (r : Int)) (hj : j10.toInt = (r : Int) + 1) : WLT i2 j10 c40 c41 := by
  obtain ⟨u0, u1, c, i1, u2, sz, tn, N, tf, gw, gu, -, ⟨-, -, -, -, -, e40, -, -⟩, -, -, ⟨n1, n2, n3⟩, k1, k2, k3, k4⟩ := hn
  subst e40
  intro q hq i hi2
  by_cases e : q = r
  · rw [e, upd_s] at hi2
    obtain ⟨⟨f1, -⟩, -, -, f4⟩ := k4 i (by omega)
    rw [e, f1]; exact f4
  · rw [upd_n e] at hi2
    obtain ⟨-, -, w1, w2, w3, -⟩ := hC q (by omega)
    rw [(k3 (12 * q + i) (by omega)).1]
    exact h q (by omega) i hi2
theorem R4_word {i2 i10 i0 i1 i3 i6 i7 i8 i9 j0 j1 j2 j3 j4 j5 j6 j7 u0 v1 ni0 ni2 v2 nj0 nj3 : Int32} {a4 a5 b6 b7 b40 b41 a1 a7 a13 a18 a19 a20 a21 a22 a23 a24 a25 b1 b2 b4 b5 b8 b12 b13 b14 b15 b16 b17 b18 b19 b20 b21 b22 na4 na5 nb6 nb7 nb13 nb14 : Nat → Int32} {r9n : Nat → Nat} {r9c : Nat → Nat → Int32} (hr : R4 i2 i10 a4 a5 b6 b7 b40 b41) (hR : R1 i0 i1 i2 i3 i6 i7 i8 i9 i10 a1 a4 a5 a7 a13 a18 a19 a20 a21 a22 a23 a24 a25 r9n r9c j0 j1 j2 j3 j4 j5 j6 j7 b1 b2 b4 b5 b8 b12 b13 b14 b15 b16 b17 b18 b19 b20 b21 b22) (e0 : v1 = (F_x11_word u0 i0 i2 a1 a4 a5).1) (e1 : ni0 = (F_x11_word u0 i0 i2 a1 a4 a5).2.1) (e2 : ni2 = (F_x11_word u0 i0 i2 a1 a4 a5).2.2.1) (e3 : na4 = (F_x11_word u0 i0 i2 a1 a4 a5).2.2.2.1) (e4 : na5 = (F_x11_word u0 i0 i2 a1 a4 a5).2.2.2.2) (f0 : v2 = (F_m12_word u0 j0 j3 b1 b6 b7 b13 b14).1) (f1 : nj0 = (F_m12_word u0 j0 j3 b1 b6 b7 b13 b14).2.1) (f2 : nj3 = (F_m12_word u0 j0 j3 b1 b6 b7 b13 b14).2.2.1) (f3 : nb6 = (F_m12_word u0 j0 j3 b1 b6 b7 b13 b14).2.2.2.1) (f4 : nb7 = (F_m12_word u0 j0 j3 b1 b6 b7 b13 b14).2.2.2.2.1) (f5 : nb13 = (F_m12_word u0 j0 j3 b1 b6 b7 b13 b14).2.2.2.2.2.1) (f6 : nb14 = (F_m12_word u0 j0 j3 b1 b6 b7 b13 b14).2.2.2.2.2.2) : R4 ni2 i10 na4 na5 nb6 nb7 b40 b41 := by
  obtain ⟨⟨q0, q1, q2, q3, q6, q7, q9, q10⟩, ⟨g0, g1, g2, g3, g6, g7, g9, g10⟩, T, W, V, R, P, D, L⟩ := hR
  subst q0 q1 q2 q3 q6 q7 q9 q10
  have r := R_word (u0 := u0) (b6 := b6) (b7 := b7) g0 g2 T W rfl rfl
  obtain ⟨s1, s2⟩ := hr
  replace e2 := e2.symm
  subst e2
  replace e3 := e3.symm
  subst e3
  replace e4 := e4.symm
  subst e4
  replace f3 := f3.symm
  subst f3
  replace f4 := f4.symm
  subst f4
  refine ⟨r.2.2.2.2.2.2.1 s1, fun q hq i hi => ?_⟩
  have a := s2 q hq i hi
  have b := r.2.2.2.2.2.2.2
  omega
theorem R4_spell {i2 i10 i0 i1 i3 i6 i7 i8 i9 j0 j1 j2 j3 j4 j5 j6 j7 u0 u1 u2 v1 ni0 nj0 : Int32} {a4 a5 b6 b7 b40 b41 a1 a7 a13 a18 a19 a20 a21 a22 a23 a24 a25 b1 b2 b4 b5 b8 b12 b13 b14 b15 b16 b17 b18 b19 b20 b21 b22 na4 na5 nb6 nb7 : Nat → Int32} {r9n : Nat → Nat} {r9c : Nat → Nat → Int32} (hr : R4 i2 i10 a4 a5 b6 b7 b40 b41) (hR : R1 i0 i1 i2 i3 i6 i7 i8 i9 i10 a1 a4 a5 a7 a13 a18 a19 a20 a21 a22 a23 a24 a25 r9n r9c j0 j1 j2 j3 j4 j5 j6 j7 b1 b2 b4 b5 b8 b12 b13 b14 b15 b16 b17 b18 b19 b20 b21 b22) (e0 : v1 = (F_x11_spell u0 u1 u2 i0 i2 a1 a4 a5).1) (e1 : ni0 = (F_x11_spell u0 u1 u2 i0 i2 a1 a4 a5).2.1) (e2 : na4 = (F_x11_spell u0 u1 u2 i0 i2 a1 a4 a5).2.2.1) (e3 : na5 = (F_x11_spell u0 u1 u2 i0 i2 a1 a4 a5).2.2.2) (f0 : nj0 = (F_m12_spell u0 u1 u2 j0 j3 b1 b6 b7).1) (f1 : nb6 = (F_m12_spell u0 u1 u2 j0 j3 b1 b6 b7).2.1) (f2 : nb7 = (F_m12_spell u0 u1 u2 j0 j3 b1 b6 b7).2.2) : R4 i2 i10 na4 na5 nb6 nb7 b40 b41 := by
  obtain ⟨⟨q0, q1, q2, q3, q6, q7, q9, q10⟩, ⟨g0, g1, g2, g3, g6, g7, g9, g10⟩, T, W, V, R, P, D, L⟩ := hR
  subst q0 q1 q2 q3 q6 q7 q9 q10
  have r := R_spell (u0 := u0) (u1 := u1) (u2 := u2) (b6 := b6) (b7 := b7) g0 g2 T W rfl rfl
  obtain ⟨s1, s2⟩ := hr
  replace e2 := e2.symm
  subst e2
  replace e3 := e3.symm
  subst e3
  replace f1 := f1.symm
  subst f1
  replace f2 := f2.symm
  subst f2
  exact ⟨r.2.2.2.2 s1, s2⟩
theorem R4_render {i2 i10 i0 i1 i3 i6 i7 i8 i9 j0 j1 j2 j3 j4 j5 j6 j7 i4 i11 j18 u0 u1 u2 i17 i18 i19 i20 i21 i22 i23 i24 i35 v1 ni0 ni10 ni17 ni18 ni19 ni20 ni21 ni22 ni23 ni24 ni35 v2 nj0 nj7 : Int32} {a4 a5 b6 b7 b40 b41 a1 a7 a13 a18 a19 a20 a21 a22 a23 a24 a25 b1 b2 b4 b5 b8 b12 b13 b14 b15 b16 b17 b18 b19 b20 b21 b22 a15 a29 a30 a31 a32 b10 b11 b33 b34 b35 b36 b37 b38 b39 b42 b43 b44 b45 b46 b47 b48 b49 b50 b51 b52 b53 a8 nb33 nb34 nb36 nb37 nb38 nb39 nb40 nb41 nb42 nb43 nb46 : Nat → Int32} {r9n : Nat → Nat} {r9c og nog : Nat → Nat → Int32} {ogn nogn : Nat → Nat → Nat} {ogc nogc : Nat → Nat → Nat → Int32} (hr : R4 i2 i10 a4 a5 b6 b7 b40 b41) (hR : R1 i0 i1 i2 i3 i6 i7 i8 i9 i10 a1 a4 a5 a7 a13 a18 a19 a20 a21 a22 a23 a24 a25 r9n r9c j0 j1 j2 j3 j4 j5 j6 j7 b1 b2 b4 b5 b8 b12 b13 b14 b15 b16 b17 b18 b19 b20 b21 b22) (hh : R2 i3 i4 i6 i7 i10 i11 j18 a15 a29 a30 a31 a32 b2 b8 b10 b11 b12 b33 b34 b35 b36 b37 b38 b39 b40 b41 b42 b43 b44 b45 b46 b47 b48 b49 b50 b51 b52 b53 og ogn ogc) (hk : KI j6 b18 b19 b20 b21 b22) (e0 : v1 = (F_x11_render u0 u1 u2 i0 i1 i2 i3 i6 i7 i8 i9 i10 i17 i18 i19 i20 i21 i22 i23 i24 i35 a1 a7 a8 a13 a18 a19 a20 a21 a22 a23 a25 r9n r9c og ogn ogc).1) (e1 : ni0 = (F_x11_render u0 u1 u2 i0 i1 i2 i3 i6 i7 i8 i9 i10 i17 i18 i19 i20 i21 i22 i23 i24 i35 a1 a7 a8 a13 a18 a19 a20 a21 a22 a23 a25 r9n r9c og ogn ogc).2.1) (e2 : ni10 = (F_x11_render u0 u1 u2 i0 i1 i2 i3 i6 i7 i8 i9 i10 i17 i18 i19 i20 i21 i22 i23 i24 i35 a1 a7 a8 a13 a18 a19 a20 a21 a22 a23 a25 r9n r9c og ogn ogc).2.2.1) (e3 : ni17 = (F_x11_render u0 u1 u2 i0 i1 i2 i3 i6 i7 i8 i9 i10 i17 i18 i19 i20 i21 i22 i23 i24 i35 a1 a7 a8 a13 a18 a19 a20 a21 a22 a23 a25 r9n r9c og ogn ogc).2.2.2.1) (e4 : ni18 = (F_x11_render u0 u1 u2 i0 i1 i2 i3 i6 i7 i8 i9 i10 i17 i18 i19 i20 i21 i22 i23 i24 i35 a1 a7 a8 a13 a18 a19 a20 a21 a22 a23 a25 r9n r9c og ogn ogc).2.2.2.2.1) (e5 : ni19 = (F_x11_render u0 u1 u2 i0 i1 i2 i3 i6 i7 i8 i9 i10 i17 i18 i19 i20 i21 i22 i23 i24 i35 a1 a7 a8 a13 a18 a19 a20 a21 a22 a23 a25 r9n r9c og ogn ogc).2.2.2.2.2.1) (e6 : ni20 = (F_x11_render u0 u1 u2 i0 i1 i2 i3 i6 i7 i8 i9 i10 i17 i18 i19 i20 i21 i22 i23 i24 i35 a1 a7 a8 a13 a18 a19 a20 a21 a22 a23 a25 r9n r9c og ogn ogc).2.2.2.2.2.2.1) (e7 : ni21 = (F_x11_render u0 u1 u2 i0 i1 i2 i3 i6 i7 i8 i9 i10 i17 i18 i19 i20 i21 i22 i23 i24 i35 a1 a7 a8 a13 a18 a19 a20 a21 a22 a23 a25 r9n r9c og ogn ogc).2.2.2.2.2.2.2.1) (e8 : ni22 = (F_x11_render u0 u1 u2 i0 i1 i2 i3 i6 i7 i8 i9 i10 i17 i18 i19 i20 i21 i22 i23 i24 i35 a1 a7 a8 a13 a18 a19 a20 a21 a22 a23 a25 r9n r9c og ogn ogc).2.2.2.2.2.2.2.2.1) (e9 : ni23 = (F_x11_render u0 u1 u2 i0 i1 i2 i3 i6 i7 i8 i9 i10 i17 i18 i19 i20 i21 i22 i23 i24 i35 a1 a7 a8 a13 a18 a19 a20 a21 a22 a23 a25 r9n r9c og ogn ogc).2.2.2.2.2.2.2.2.2.1) (e10 : ni24 = (F_x11_render u0 u1 u2 i0 i1 i2 i3 i6 i7 i8 i9 i10 i17 i18 i19 i20 i21 i22 i23 i24 i35 a1 a7 a8 a13 a18 a19 a20 a21 a22 a23 a25 r9n r9c og ogn ogc).2.2.2.2.2.2.2.2.2.2.1) (e11 : ni35 = (F_x11_render u0 u1 u2 i0 i1 i2 i3 i6 i7 i8 i9 i10 i17 i18 i19 i20 i21 i22 i23 i24 i35 a1 a7 a8 a13 a18 a19 a20 a21 a22 a23 a25 r9n r9c og ogn ogc).2.2.2.2.2.2.2.2.2.2.2.1) (e12 : nog = (F_x11_render u0 u1 u2 i0 i1 i2 i3 i6 i7 i8 i9 i10 i17 i18 i19 i20 i21 i22 i23 i24 i35 a1 a7 a8 a13 a18 a19 a20 a21 a22 a23 a25 r9n r9c og ogn ogc).2.2.2.2.2.2.2.2.2.2.2.2.1) (e13 : nogn = (F_x11_render u0 u1 u2 i0 i1 i2 i3 i6 i7 i8 i9 i10 i17 i18 i19 i20 i21 i22 i23 i24 i35 a1 a7 a8 a13 a18 a19 a20 a21 a22 a23 a25 r9n r9c og ogn ogc).2.2.2.2.2.2.2.2.2.2.2.2.2.1) (e14 : nogc = (F_x11_render u0 u1 u2 i0 i1 i2 i3 i6 i7 i8 i9 i10 i17 i18 i19 i20 i21 i22 i23 i24 i35 a1 a7 a8 a13 a18 a19 a20 a21 a22 a23 a25 r9n r9c og ogn ogc).2.2.2.2.2.2.2.2.2.2.2.2.2.2) (f0 : v2 = (F_m12_render u0 u1 u2 j0 j1 j2 j3 j4 j5 j6 j7 b1 b2 b4 b5 b8 b12 b15 b16 b17 b18 b19 b20 b21 b33 b34 b36 b37 b38 b39 b40 b41 b42 b43 b46).1) (f1 : nj0 = (F_m12_render u0 u1 u2 j0 j1 j2 j3 j4 j5 j6 j7 b1 b2 b4 b5 b8 b12 b15 b16 b17 b18 b19 b20 b21 b33 b34 b36 b37 b38 b39 b40 b41 b42 b43 b46).2.1) (f2 : nj7 = (F_m12_render u0 u1 u2 j0 j1 j2 j3 j4 j5 j6 j7 b1 b2 b4 b5 b8 b12 b15 b16 b17 b18 b19 b20 b21 b33 b34 b36 b37 b38 b39 b40 b41 b42 b43 b46).2.2.1) (f3 : nb33 = (F_m12_render u0 u1 u2 j0 j1 j2 j3 j4 j5 j6 j7 b1 b2 b4 b5 b8 b12 b15 b16 b17 b18 b19 b20 b21 b33 b34 b36 b37 b38 b39 b40 b41 b42 b43 b46).2.2.2.1) (f4 : nb34 = (F_m12_render u0 u1 u2 j0 j1 j2 j3 j4 j5 j6 j7 b1 b2 b4 b5 b8 b12 b15 b16 b17 b18 b19 b20 b21 b33 b34 b36 b37 b38 b39 b40 b41 b42 b43 b46).2.2.2.2.1) (f5 : nb36 = (F_m12_render u0 u1 u2 j0 j1 j2 j3 j4 j5 j6 j7 b1 b2 b4 b5 b8 b12 b15 b16 b17 b18 b19 b20 b21 b33 b34 b36 b37 b38 b39 b40 b41 b42 b43 b46).2.2.2.2.2.1) (f6 : nb37 = (F_m12_render u0 u1 u2 j0 j1 j2 j3 j4 j5 j6 j7 b1 b2 b4 b5 b8 b12 b15 b16 b17 b18 b19 b20 b21 b33 b34 b36 b37 b38 b39 b40 b41 b42 b43 b46).2.2.2.2.2.2.1) (f7 : nb38 = (F_m12_render u0 u1 u2 j0 j1 j2 j3 j4 j5 j6 j7 b1 b2 b4 b5 b8 b12 b15 b16 b17 b18 b19 b20 b21 b33 b34 b36 b37 b38 b39 b40 b41 b42 b43 b46).2.2.2.2.2.2.2.1) (f8 : nb39 = (F_m12_render u0 u1 u2 j0 j1 j2 j3 j4 j5 j6 j7 b1 b2 b4 b5 b8 b12 b15 b16 b17 b18 b19 b20 b21 b33 b34 b36 b37 b38 b39 b40 b41 b42 b43 b46).2.2.2.2.2.2.2.2.1) (f9 : nb40 = (F_m12_render u0 u1 u2 j0 j1 j2 j3 j4 j5 j6 j7 b1 b2 b4 b5 b8 b12 b15 b16 b17 b18 b19 b20 b21 b33 b34 b36 b37 b38 b39 b40 b41 b42 b43 b46).2.2.2.2.2.2.2.2.2.1) (f10 : nb41 = (F_m12_render u0 u1 u2 j0 j1 j2 j3 j4 j5 j6 j7 b1 b2 b4 b5 b8 b12 b15 b16 b17 b18 b19 b20 b21 b33 b34 b36 b37 b38 b39 b40 b41 b42 b43 b46).2.2.2.2.2.2.2.2.2.2.1) (f11 : nb42 = (F_m12_render u0 u1 u2 j0 j1 j2 j3 j4 j5 j6 j7 b1 b2 b4 b5 b8 b12 b15 b16 b17 b18 b19 b20 b21 b33 b34 b36 b37 b38 b39 b40 b41 b42 b43 b46).2.2.2.2.2.2.2.2.2.2.2.1) (f12 : nb43 = (F_m12_render u0 u1 u2 j0 j1 j2 j3 j4 j5 j6 j7 b1 b2 b4 b5 b8 b12 b15 b16 b17 b18 b19 b20 b21 b33 b34 b36 b37 b38 b39 b40 b41 b42 b43 b46).2.2.2.2.2.2.2.2.2.2.2.2.1) (f13 : nb46 = (F_m12_render u0 u1 u2 j0 j1 j2 j3 j4 j5 j6 j7 b1 b2 b4 b5 b8 b12 b15 b16 b17 b18 b19 b20 b21 b33 b34 b36 b37 b38 b39 b40 b41 b42 b43 b46).2.2.2.2.2.2.2.2.2.2.2.2.2) : R4 i2 ni10 a4 a5 b6 b7 nb40 nb41 := by
  obtain ⟨⟨q0, q1, q2, q3, q6, q7, q9, q10⟩, ⟨g0, g1, g2, g3, g6, g7, g9, g10⟩, T, W, V, R, P, D, L⟩ := hR
  subst q0 q1 q2 q3 q6 q7 q9 q10
  obtain ⟨M, C, S, K, V2, Cs, Sd, X, E, E2⟩ := hh
  have r := R_render (u0 := u0) (u1 := u1) (u2 := u2) (i1 := i1) (i17 := i17) (i18 := i18) (i19 := i19) (i20 := i20) (i21 := i21) (i22 := i22) (i23 := i23) (i24 := i24) (i35 := i35) (a8 := a8) (og := og) (ogn := ogn) (ogc := ogc) (b33 := b33) (b34 := b34) (b36 := b36) (b37 := b37) (b38 := b38) (b39 := b39) (b40 := b40) (b41 := b41) (b42 := b42) (b43 := b43) (b46 := b46) g0 g10 g2 g3 g7 g6 g9 T V P D L hk R
  obtain ⟨w1_, w2_⟩ := hr
  obtain ⟨r0, -, -, -, -, rr⟩ := r
  rw [← e0, ← f0] at r0
  rcases rr with ⟨r1_, ⟨r2_, r3_, r4_⟩, r5_⟩ | ⟨r1_, r2_, r3_⟩
  · rw [← e2] at r1_
    rw [← e12] at r2_
    rw [← e13] at r3_
    rw [← e14] at r4_
    have h3 : nb33 = b33 := f3.trans (congrArg (fun p => p.1) r5_)
    have h4 : nb34 = b34 := f4.trans (congrArg (fun p => p.2.1) r5_)
    have h5 : nb36 = b36 := f5.trans (congrArg (fun p => p.2.2.1) r5_)
    have h6 : nb37 = b37 := f6.trans (congrArg (fun p => p.2.2.2.1) r5_)
    have h7 : nb38 = b38 := f7.trans (congrArg (fun p => p.2.2.2.2.1) r5_)
    have h8 : nb39 = b39 := f8.trans (congrArg (fun p => p.2.2.2.2.2.1) r5_)
    have h9 : nb40 = b40 := f9.trans (congrArg (fun p => p.2.2.2.2.2.2.1) r5_)
    have h10 : nb41 = b41 := f10.trans (congrArg (fun p => p.2.2.2.2.2.2.2.1) r5_)
    have h11 : nb42 = b42 := f11.trans (congrArg (fun p => p.2.2.2.2.2.2.2.2.1) r5_)
    have h12 : nb43 = b43 := f12.trans (congrArg (fun p => p.2.2.2.2.2.2.2.2.2.1) r5_)
    have h13 : nb46 = b46 := f13.trans (congrArg (fun p => p.2.2.2.2.2.2.2.2.2.2) r5_)
    subst r1_ r2_ r3_ r4_ h3 h4 h5 h6 h7 h8 h9 h10 h11 h12 h13
    exact ⟨w1_, w2_⟩
  · rw [← e2] at r2_
    rw [← e12, ← e13, ← e14, ← f3, ← f4, ← f5, ← f6, ← f7, ← f8, ← f9, ← f10, ← f11, ← f12, ← f13] at r3_
    obtain ⟨I, hI⟩ : ∃ I : Nat, i10.toInt = (I : Int) := ⟨i10.toInt.toNat, by omega⟩
    rw [show i10.toInt.toNat = I by omega] at r3_
    have hj : ni10.toInt = (I : Int) + 1 := by omega
    exact ⟨w1_, NEW_WLT r3_ w2_ C hI hj⟩
theorem R4_printed {i2 i10 i0 i1 i3 i6 i7 i8 i9 j0 j1 j2 j3 j4 j5 j6 j7 i4 i11 j18 u0 u1 u2 j27 v1 v2 nj27 : Int32} {a4 a5 b6 b7 b40 b41 a1 a7 a13 a18 a19 a20 a21 a22 a23 a24 a25 b1 b2 b4 b5 b8 b12 b13 b14 b15 b16 b17 b18 b19 b20 b21 b22 a15 a29 a30 a31 a32 b10 b11 b33 b34 b35 b36 b37 b38 b39 b42 b43 b44 b45 b46 b47 b48 b49 b50 b51 b52 b53 b63 nb63 : Nat → Int32} {r9n : Nat → Nat} {r9c og : Nat → Nat → Int32} {ogn : Nat → Nat → Nat} {ogc : Nat → Nat → Nat → Int32} (hr : R4 i2 i10 a4 a5 b6 b7 b40 b41) (hR : R1 i0 i1 i2 i3 i6 i7 i8 i9 i10 a1 a4 a5 a7 a13 a18 a19 a20 a21 a22 a23 a24 a25 r9n r9c j0 j1 j2 j3 j4 j5 j6 j7 b1 b2 b4 b5 b8 b12 b13 b14 b15 b16 b17 b18 b19 b20 b21 b22) (hh : R2 i3 i4 i6 i7 i10 i11 j18 a15 a29 a30 a31 a32 b2 b8 b10 b11 b12 b33 b34 b35 b36 b37 b38 b39 b40 b41 b42 b43 b44 b45 b46 b47 b48 b49 b50 b51 b52 b53 og ogn ogc) (e0 : v1 = (F_x11_printed u0 u1 u2 i2 i10 a4 a5 a29 ogn ogc)) (f0 : v2 = (F_m12_printed u0 u1 u2 j2 j7 j27 b6 b7 b34 b35 b40 b41 b42 b63).1) (f1 : nj27 = (F_m12_printed u0 u1 u2 j2 j7 j27 b6 b7 b34 b35 b40 b41 b42 b63).2.1) (f2 : nb63 = (F_m12_printed u0 u1 u2 j2 j7 j27 b6 b7 b34 b35 b40 b41 b42 b63).2.2) : v1.toInt = v2.toInt := by
  obtain ⟨⟨q0, q1, q2, q3, q6, q7, q9, q10⟩, ⟨g0, g1, g2, g3, g6, g7, g9, g10⟩, T, W, V, R, P, D, L⟩ := hR
  subst q0 q1 q2 q3 q6 q7 q9 q10
  obtain ⟨M, C, S, K, V2, Cs, Sd, X, E, E2⟩ := hh
  have r := R_printed (u0 := u0) (u1 := u1) (u2 := u2) (i27 := j27) (b63 := b63) g2 g3 g10 C S X hr.1 hr.2
  replace e0 := e0.symm
  subst e0
  replace f0 := f0.symm
  subst f0
  rw [r]
