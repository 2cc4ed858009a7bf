/-! options, as R1 has them -/
theorem RO_option {i0 i1 i2 i3 i6 i7 i8 i9 i10 j0 j1 j2 j3 j4 j5 j6 j7 i30 j26 u0 u1 v1 v2 ni30 nj26 : Int32} {a1 a4 a5 a7 a13 a18 a19 a20 a21 a22 a23 a24 a25 b1 b2 b4 b5 b8 b12 b13 b14 b15 b16 b17 b18 b19 b20 b21 b22 a43 a44 a45 b55 b56 b57 na43 na44 na45 nb55 nb56 nb57 a8 a26 b3 b23 b24 b25 b26 : Nat → Int32} {r9n rtn : Nat → Nat} {r9c rtc : Nat → Nat → Int32} (h : RO i30 a43 a44 a45 j26 b55 b56 b57) (hR : R1 i0 i1 i2 i3 i6 i7 i8 i9 i10 a1 a4 a5 a7 a8 a13 a18 a19 a20 a21 a22 a23 a24 a25 a26 r9n r9c rtn rtc j0 j1 j2 j3 j4 j5 j6 j7 b1 b2 b3 b4 b5 b8 b12 b13 b14 b15 b16 b17 b18 b19 b20 b21 b22 b23 b24 b25 b26) (e0 : v1 = (F_x11_option u0 u1 i2 i30 a43 a44 a45).1) (e1 : ni30 = (F_x11_option u0 u1 i2 i30 a43 a44 a45).2.1) (e2 : na43 = (F_x11_option u0 u1 i2 i30 a43 a44 a45).2.2.1) (e3 : na44 = (F_x11_option u0 u1 i2 i30 a43 a44 a45).2.2.2.1) (e4 : na45 = (F_x11_option u0 u1 i2 i30 a43 a44 a45).2.2.2.2) (f0 : v2 = (F_m12_option u0 u1 j3 j26 b55 b56 b57).1) (f1 : nj26 = (F_m12_option u0 u1 j3 j26 b55 b56 b57).2.1) (f2 : nb55 = (F_m12_option u0 u1 j3 j26 b55 b56 b57).2.2.1) (f3 : nb56 = (F_m12_option u0 u1 j3 j26 b55 b56 b57).2.2.2.1) (f4 : nb57 = (F_m12_option u0 u1 j3 j26 b55 b56 b57).2.2.2.2) : v1.toInt = v2.toInt ∧ RO ni30 na43 na44 na45 nj26 nb55 nb56 nb57 := by
  obtain ⟨⟨-, -, q2, -⟩, ⟨-, -, g2, -⟩, -⟩ := hR
  have q := h.1
  subst q q2
  have r := R_option (u0 := u0) (u1 := u1) g2.1 h
  subst e0 e1 e2 e3 e4 f0 f1 f2 f3 f4
  exact ⟨by rw [r.1], r.2⟩
