/-! both sides after any calls: renderings, votes, what is FIXED -/
theorem R2_verse {i0 i1 i2 i3 i6 i7 i8 i9 i10 j0 j1 j2 j3 j4 j5 j6 j7 i4 i11 j18 u0 u1 v1 ni3 v2 nj2 : Int32} {a1 a4 a5 a7 a8 a13 a18 a19 a20 a21 a22 a23 a24 a25 a26 b1 b2 b3 b4 b5 b8 b12 b13 b14 b15 b16 b17 b18 b19 b20 b21 b22 b23 b24 b25 b26 a15 a29 a30 a31 a32 b10 b11 b33 b34 b35 b36 b37 b38 b39 b40 b41 b42 b43 b44 b45 b46 b47 b48 b49 b50 b51 b52 b53 na7 na8 nb2 nb3 : Nat → Int32} {r9n rtn : Nat → Nat} {r9c rtc og : Nat → Nat → Int32} {ogn : Nat → Nat → Nat} {ogc : Nat → Nat → Nat → Int32} (hh : R2 i3 i4 i6 i7 i10 i11 j18 a15 a29 a30 a31 a32 b2 b8 b10 b11 b12 b33 b34 b35 b36 b37 b38 b39 b40 b41 b42 b43 b44 b45 b46 b47 b48 b49 b50 b51 b52 b53 og ogn ogc) (hR : R1 i0 i1 i2 i3 i6 i7 i8 i9 i10 a1 a4 a5 a7 a8 a13 a18 a19 a20 a21 a22 a23 a24 a25 a26 r9n r9c rtn rtc j0 j1 j2 j3 j4 j5 j6 j7 b1 b2 b3 b4 b5 b8 b12 b13 b14 b15 b16 b17 b18 b19 b20 b21 b22 b23 b24 b25 b26) (hR1 : R1 i0 i1 i2 ni3 i6 i7 i8 i9 i10 a1 a4 a5 na7 na8 a13 a18 a19 a20 a21 a22 a23 a24 a25 a26 r9n r9c rtn rtc j0 j1 nj2 j3 j4 j5 j6 j7 b1 nb2 nb3 b4 b5 b8 b12 b13 b14 b15 b16 b17 b18 b19 b20 b21 b22 b23 b24 b25 b26) (e0 : v1 = (F_x11_verse u0 u1 i3 a7 a8).1) (e1 : ni3 = (F_x11_verse u0 u1 i3 a7 a8).2.1) (e2 : na7 = (F_x11_verse u0 u1 i3 a7 a8).2.2.1) (e3 : na8 = (F_x11_verse u0 u1 i3 a7 a8).2.2.2) (f0 : v2 = (F_m12_verse u0 u1 j2 b2 b3).1) (f1 : nj2 = (F_m12_verse u0 u1 j2 b2 b3).2.1) (f2 : nb2 = (F_m12_verse u0 u1 j2 b2 b3).2.2.1) (f3 : nb3 = (F_m12_verse u0 u1 j2 b2 b3).2.2.2) : R2 ni3 i4 i6 i7 i10 i11 j18 a15 a29 a30 a31 a32 nb2 b8 b10 b11 b12 b33 b34 b35 b36 b37 b38 b39 b40 b41 b42 b43 b44 b45 b46 b47 b48 b49 b50 b51 b52 b53 og ogn ogc := by
  obtain ⟨⟨q0, q1, q2, q3, q6, q7, q9, q10⟩, ⟨g0, g1, g2, g3, g6, g7, g9, g10⟩, T, W, V, R, P, D, L, M1, C1⟩ := hR
  subst q0 q1 q2 q3 q6 q7 q9 q10
  obtain ⟨M, C, S, K, V2, Cs, Sd, X, E, E2⟩ := hh
  obtain ⟨⟨-, -, -, q3', -⟩, -⟩ := hR1
  have r := ms_verse (p0 := u0) (p1 := u1) (a2 := b2) (a3 := b3) g3
  subst q3'
  replace f1 := f1.symm
  subst f1
  replace f2 := f2.symm
  subst f2
  exact ⟨M, C, RNS_mono S r.1, K, V2, CST_mono Cs S (Int.le_refl _) (Int.le_refl _) r.2 (fun _ _ => rfl) (fun _ _ => ⟨rfl, rfl⟩), Sd, X, E, TLV_mono E2 r.1⟩
theorem R2_company {i0 i1 i2 i3 i6 i7 i8 i9 i10 j0 j1 j2 j3 j4 j5 j6 j7 i4 i11 j18 u0 u1 v1 ni6 v2 nj4 : Int32} {a1 a4 a5 a7 a8 a13 a18 a19 a20 a21 a22 a23 a24 a25 a26 b1 b2 b3 b4 b5 b8 b12 b13 b14 b15 b16 b17 b18 b19 b20 b21 b22 b23 b24 b25 b26 a15 a29 a30 a31 a32 b10 b11 b33 b34 b35 b36 b37 b38 b39 b40 b41 b42 b43 b44 b45 b46 b47 b48 b49 b50 b51 b52 b53 a14 na13 na14 nb8 : Nat → Int32} {r9n rtn : Nat → Nat} {r9c rtc og : Nat → Nat → Int32} {ogn : Nat → Nat → Nat} {ogc : Nat → Nat → Nat → Int32} (hh : R2 i3 i4 i6 i7 i10 i11 j18 a15 a29 a30 a31 a32 b2 b8 b10 b11 b12 b33 b34 b35 b36 b37 b38 b39 b40 b41 b42 b43 b44 b45 b46 b47 b48 b49 b50 b51 b52 b53 og ogn ogc) (hR : R1 i0 i1 i2 i3 i6 i7 i8 i9 i10 a1 a4 a5 a7 a8 a13 a18 a19 a20 a21 a22 a23 a24 a25 a26 r9n r9c rtn rtc j0 j1 j2 j3 j4 j5 j6 j7 b1 b2 b3 b4 b5 b8 b12 b13 b14 b15 b16 b17 b18 b19 b20 b21 b22 b23 b24 b25 b26) (hR1 : R1 i0 i1 i2 i3 ni6 i7 i8 i9 i10 a1 a4 a5 a7 a8 na13 a18 a19 a20 a21 a22 a23 a24 a25 a26 r9n r9c rtn rtc j0 j1 j2 j3 nj4 j5 j6 j7 b1 b2 b3 b4 b5 nb8 b12 b13 b14 b15 b16 b17 b18 b19 b20 b21 b22 b23 b24 b25 b26) (e0 : v1 = (F_x11_company u0 u1 i6 a13 a14).1) (e1 : ni6 = (F_x11_company u0 u1 i6 a13 a14).2.1) (e2 : na13 = (F_x11_company u0 u1 i6 a13 a14).2.2.1) (e3 : na14 = (F_x11_company u0 u1 i6 a13 a14).2.2.2) (f0 : v2 = (F_m12_company u0 u1 j4 b8).1) (f1 : nj4 = (F_m12_company u0 u1 j4 b8).2.1) (f2 : nb8 = (F_m12_company u0 u1 j4 b8).2.2) : R2 i3 i4 ni6 i7 i10 i11 j18 a15 a29 a30 a31 a32 b2 nb8 b10 b11 b12 b33 b34 b35 b36 b37 b38 b39 b40 b41 b42 b43 b44 b45 b46 b47 b48 b49 b50 b51 b52 b53 og ogn ogc := by
  obtain ⟨⟨q0, q1, q2, q3, q6, q7, q9, q10⟩, ⟨g0, g1, g2, g3, g6, g7, g9, g10⟩, T, W, V, R, P, D, L, M1, C1⟩ := hR
  subst q0 q1 q2 q3 q6 q7 q9 q10
  obtain ⟨M, C, S, K, V2, Cs, Sd, X, E, E2⟩ := hh
  obtain ⟨⟨-, -, -, -, q6', -⟩, -⟩ := hR1
  have r := ms_company (p0 := u0) (p1 := u1) (a8 := b8) g6
  subst q6'
  replace f1 := f1.symm
  subst f1
  replace f2 := f2.symm
  subst f2
  exact ⟨MEM_mono M r.1, C, S, K, V2, CST_mono Cs S r.1 (Int.le_refl _) (fun _ _ => rfl) r.2 (fun _ _ => ⟨rfl, rfl⟩), Sd, X, E, E2⟩
theorem R2_scholar {i0 i1 i2 i3 i6 i7 i8 i9 i10 j0 j1 j2 j3 j4 j5 j6 j7 i4 i11 j18 u0 u1 v1 ni4 ni7 v2 nj5 : Int32} {a1 a4 a5 a7 a8 a13 a18 a19 a20 a21 a22 a23 a24 a25 a26 b1 b2 b3 b4 b5 b8 b12 b13 b14 b15 b16 b17 b18 b19 b20 b21 b22 b23 b24 b25 b26 a15 a29 a30 a31 a32 b10 b11 b33 b34 b35 b36 b37 b38 b39 b40 b41 b42 b43 b44 b45 b46 b47 b48 b49 b50 b51 b52 b53 na15 nb10 nb11 : Nat → Int32} {r9n rtn : Nat → Nat} {r9c rtc og : Nat → Nat → Int32} {ogn : Nat → Nat → Nat} {ogc : Nat → Nat → Nat → Int32} (hh : R2 i3 i4 i6 i7 i10 i11 j18 a15 a29 a30 a31 a32 b2 b8 b10 b11 b12 b33 b34 b35 b36 b37 b38 b39 b40 b41 b42 b43 b44 b45 b46 b47 b48 b49 b50 b51 b52 b53 og ogn ogc) (hR : R1 i0 i1 i2 i3 i6 i7 i8 i9 i10 a1 a4 a5 a7 a8 a13 a18 a19 a20 a21 a22 a23 a24 a25 a26 r9n r9c rtn rtc j0 j1 j2 j3 j4 j5 j6 j7 b1 b2 b3 b4 b5 b8 b12 b13 b14 b15 b16 b17 b18 b19 b20 b21 b22 b23 b24 b25 b26) (hu : u1 = 0 ∨ u1 = 1) (e0 : v1 = (F_x11_scholar u0 u1 i4 i6 i7 a15).1) (e1 : ni4 = (F_x11_scholar u0 u1 i4 i6 i7 a15).2.1) (e2 : ni7 = (F_x11_scholar u0 u1 i4 i6 i7 a15).2.2.1) (e3 : na15 = (F_x11_scholar u0 u1 i4 i6 i7 a15).2.2.2) (f0 : v2 = (F_m12_scholar u0 u1 j4 j5 b10 b11).1) (f1 : nj5 = (F_m12_scholar u0 u1 j4 j5 b10 b11).2.1) (f2 : nb10 = (F_m12_scholar u0 u1 j4 j5 b10 b11).2.2.1) (f3 : nb11 = (F_m12_scholar u0 u1 j4 j5 b10 b11).2.2.2) : R2 i3 ni4 i6 ni7 i10 i11 j18 na15 a29 a30 a31 a32 b2 b8 nb10 nb11 b12 b33 b34 b35 b36 b37 b38 b39 b40 b41 b42 b43 b44 b45 b46 b47 b48 b49 b50 b51 b52 b53 og ogn ogc := by
  obtain ⟨⟨q0, q1, q2, q3, q6, q7, q9, q10⟩, ⟨g0, g1, g2, g3, g6, g7, g9, g10⟩, T, W, V, R, P, D, L, M1, C1⟩ := hR
  subst q0 q1 q2 q3 q6 q7 q9 q10
  obtain ⟨M, C, S, K, V2, Cs, Sd, X, E, E2⟩ := hh
  have r := R_scholar (u0 := u0) (u1 := u1) hu g6 g7 M
  replace e1 := e1.symm
  subst e1
  replace e2 := e2.symm
  subst e2
  replace e3 := e3.symm
  subst e3
  replace f2 := f2.symm
  subst f2
  replace f3 := f3.symm
  subst f3
  exact ⟨r.2.2.2.1, C, S, K, V2, CST_mono Cs S (Int.le_refl _) r.2.2.2.2.1 (fun _ _ => rfl) (fun _ _ => rfl) r.2.2.2.2.2, Sd, X, E, E2⟩
theorem R2_vote {i0 i1 i2 i3 i6 i7 i8 i9 i10 j0 j1 j2 j3 j4 j5 j6 j7 i4 i11 j18 u0 u1 u2 v1 v2 : Int32} {a1 a4 a5 a7 a8 a13 a18 a19 a20 a21 a22 a23 a24 a25 a26 b1 b2 b3 b4 b5 b8 b12 b13 b14 b15 b16 b17 b18 b19 b20 b21 b22 b23 b24 b25 b26 a15 a29 a30 a31 a32 b10 b11 b33 b34 b35 b36 b37 b38 b39 b40 b41 b42 b43 b44 b45 b46 b47 b48 b49 b50 b51 b52 b53 nb49 nb50 : Nat → Int32} {r9n rtn : Nat → Nat} {r9c rtc og nog : Nat → Nat → Int32} {ogn : Nat → Nat → Nat} {ogc : Nat → Nat → Nat → Int32} (hh : R2 i3 i4 i6 i7 i10 i11 j18 a15 a29 a30 a31 a32 b2 b8 b10 b11 b12 b33 b34 b35 b36 b37 b38 b39 b40 b41 b42 b43 b44 b45 b46 b47 b48 b49 b50 b51 b52 b53 og ogn ogc) (hR : R1 i0 i1 i2 i3 i6 i7 i8 i9 i10 a1 a4 a5 a7 a8 a13 a18 a19 a20 a21 a22 a23 a24 a25 a26 r9n r9c rtn rtc j0 j1 j2 j3 j4 j5 j6 j7 b1 b2 b3 b4 b5 b8 b12 b13 b14 b15 b16 b17 b18 b19 b20 b21 b22 b23 b24 b25 b26) (e0 : v1 = (F_x11_vote u0 u1 u2 i3 i4 i6 i7 i8 i10 a7 a13 a15 og).1) (e1 : nog = (F_x11_vote u0 u1 u2 i3 i4 i6 i7 i8 i10 a7 a13 a15 og).2) (f0 : v2 = (F_m12_vote u0 u1 u2 j4 j5 j7 b2 b8 b10 b11 b12 b34 b35 b49 b50).1) (f1 : nb49 = (F_m12_vote u0 u1 u2 j4 j5 j7 b2 b8 b10 b11 b12 b34 b35 b49 b50).2.1) (f2 : nb50 = (F_m12_vote u0 u1 u2 j4 j5 j7 b2 b8 b10 b11 b12 b34 b35 b49 b50).2.2) : v1.toInt = v2.toInt ∧ R2 i3 i4 i6 i7 i10 i11 j18 a15 a29 a30 a31 a32 b2 b8 b10 b11 b12 b33 b34 b35 b36 b37 b38 b39 b40 b41 b42 b43 b44 b45 b46 b47 b48 nb49 nb50 b51 b52 b53 nog ogn ogc := by
  obtain ⟨⟨q0, q1, q2, q3, q6, q7, q9, q10⟩, ⟨g0, g1, g2, g3, g6, g7, g9, g10⟩, T, W, V, R, P, D, L, M1, C1⟩ := hR
  subst q0 q1 q2 q3 q6 q7 q9 q10
  obtain ⟨M, C, S, K, V2, Cs, Sd, X, E, E2⟩ := hh
  have r := R_vote (u0 := u0) (u1 := u1) (u2 := u2) (b46 := b46) (b47 := b47) (b48 := b48) g6 g7 g10 (fun q hq => (C q hq).1.2.1) V P D M S V2 Cs Sd
  replace e0 := e0.symm
  subst e0
  replace e1 := e1.symm
  subst e1
  replace f0 := f0.symm
  subst f0
  replace f1 := f1.symm
  subst f1
  replace f2 := f2.symm
  subst f2
  refine ⟨by rw [r.1], M, fun q hq => ?_, ⟨fun q hq => ?_, S.2⟩, fun q hq => ?_, r.2.1, r.2.2.1, r.2.2.2.1, X, E, E2⟩
  · rw [r.2.2.2.2 0 q (by decide) (by decide), r.2.2.2.2 1 q (by decide) (by decide), r.2.2.2.2 2 q (by decide) (by decide), r.2.2.2.2 6 q (by decide) (by decide)]
    exact C q hq
  · rw [r.2.2.2.2 7 q (by decide) (by decide), r.2.2.2.2 8 q (by decide) (by decide)]
    exact S.1 q hq
  · rw [r.2.2.2.2 11 q (by decide) (by decide), r.2.2.2.2 12 q (by decide) (by decide), r.2.2.2.2 13 q (by decide) (by decide)]
    exact K q hq
theorem R2_close {i0 i1 i2 i3 i6 i7 i8 i9 i10 j0 j1 j2 j3 j4 j5 j6 j7 i4 i11 j18 u0 i17 i18 i19 i20 i21 i22 i23 i24 v1 ni11 ni17 ni18 ni19 ni20 ni21 ni22 ni23 ni24 v2 nj18 : Int32} {a1 a4 a5 a7 a8 a13 a18 a19 a20 a21 a22 a23 a24 a25 a26 b1 b2 b3 b4 b5 b8 b12 b13 b14 b15 b16 b17 b18 b19 b20 b21 b22 b23 b24 b25 b26 a15 a29 a30 a31 a32 b10 b11 b33 b34 b35 b36 b37 b38 b39 b40 b41 b42 b43 b44 b45 b46 b47 b48 b49 b50 b51 b52 b53 na29 na30 na31 na32 nb35 nb43 nb44 nb45 nb46 nb47 nb48 nb51 nb52 nb53 : Nat → Int32} {r9n rtn : Nat → Nat} {r9c rtc og nog : Nat → Nat → Int32} {ogn : Nat → Nat → Nat} {ogc : Nat → Nat → Nat → Int32} (hh : R2 i3 i4 i6 i7 i10 i11 j18 a15 a29 a30 a31 a32 b2 b8 b10 b11 b12 b33 b34 b35 b36 b37 b38 b39 b40 b41 b42 b43 b44 b45 b46 b47 b48 b49 b50 b51 b52 b53 og ogn ogc) (hR : R1 i0 i1 i2 i3 i6 i7 i8 i9 i10 a1 a4 a5 a7 a8 a13 a18 a19 a20 a21 a22 a23 a24 a25 a26 r9n r9c rtn rtc j0 j1 j2 j3 j4 j5 j6 j7 b1 b2 b3 b4 b5 b8 b12 b13 b14 b15 b16 b17 b18 b19 b20 b21 b22 b23 b24 b25 b26) (hk : KI j6 b18 b19 b20 b21 b22) (hc : j18.toInt + cntF b35 ≤ 1022) (e0 : v1 = (F_x11_close u0 i1 i3 i4 i6 i8 i9 i10 i11 i17 i18 i19 i20 i21 i22 i23 i24 a7 a8 a13 a15 a18 a19 a20 a21 a22 a23 a25 a29 a30 a31 a32 r9n r9c og).1) (e1 : ni11 = (F_x11_close u0 i1 i3 i4 i6 i8 i9 i10 i11 i17 i18 i19 i20 i21 i22 i23 i24 a7 a8 a13 a15 a18 a19 a20 a21 a22 a23 a25 a29 a30 a31 a32 r9n r9c og).2.1) (e2 : ni17 = (F_x11_close u0 i1 i3 i4 i6 i8 i9 i10 i11 i17 i18 i19 i20 i21 i22 i23 i24 a7 a8 a13 a15 a18 a19 a20 a21 a22 a23 a25 a29 a30 a31 a32 r9n r9c og).2.2.1) (e3 : ni18 = (F_x11_close u0 i1 i3 i4 i6 i8 i9 i10 i11 i17 i18 i19 i20 i21 i22 i23 i24 a7 a8 a13 a15 a18 a19 a20 a21 a22 a23 a25 a29 a30 a31 a32 r9n r9c og).2.2.2.1) (e4 : ni19 = (F_x11_close u0 i1 i3 i4 i6 i8 i9 i10 i11 i17 i18 i19 i20 i21 i22 i23 i24 a7 a8 a13 a15 a18 a19 a20 a21 a22 a23 a25 a29 a30 a31 a32 r9n r9c og).2.2.2.2.1) (e5 : ni20 = (F_x11_close u0 i1 i3 i4 i6 i8 i9 i10 i11 i17 i18 i19 i20 i21 i22 i23 i24 a7 a8 a13 a15 a18 a19 a20 a21 a22 a23 a25 a29 a30 a31 a32 r9n r9c og).2.2.2.2.2.1) (e6 : ni21 = (F_x11_close u0 i1 i3 i4 i6 i8 i9 i10 i11 i17 i18 i19 i20 i21 i22 i23 i24 a7 a8 a13 a15 a18 a19 a20 a21 a22 a23 a25 a29 a30 a31 a32 r9n r9c og).2.2.2.2.2.2.1) (e7 : ni22 = (F_x11_close u0 i1 i3 i4 i6 i8 i9 i10 i11 i17 i18 i19 i20 i21 i22 i23 i24 a7 a8 a13 a15 a18 a19 a20 a21 a22 a23 a25 a29 a30 a31 a32 r9n r9c og).2.2.2.2.2.2.2.1) (e8 : ni23 = (F_x11_close u0 i1 i3 i4 i6 i8 i9 i10 i11 i17 i18 i19 i20 i21 i22 i23 i24 a7 a8 a13 a15 a18 a19 a20 a21 a22 a23 a25 a29 a30 a31 a32 r9n r9c og).2.2.2.2.2.2.2.2.1) (e9 : ni24 = (F_x11_close u0 i1 i3 i4 i6 i8 i9 i10 i11 i17 i18 i19 i20 i21 i22 i23 i24 a7 a8 a13 a15 a18 a19 a20 a21 a22 a23 a25 a29 a30 a31 a32 r9n r9c og).2.2.2.2.2.2.2.2.2.1) (e10 : na29 = (F_x11_close u0 i1 i3 i4 i6 i8 i9 i10 i11 i17 i18 i19 i20 i21 i22 i23 i24 a7 a8 a13 a15 a18 a19 a20 a21 a22 a23 a25 a29 a30 a31 a32 r9n r9c og).2.2.2.2.2.2.2.2.2.2.1) (e11 : na30 = (F_x11_close u0 i1 i3 i4 i6 i8 i9 i10 i11 i17 i18 i19 i20 i21 i22 i23 i24 a7 a8 a13 a15 a18 a19 a20 a21 a22 a23 a25 a29 a30 a31 a32 r9n r9c og).2.2.2.2.2.2.2.2.2.2.2.1) (e12 : na31 = (F_x11_close u0 i1 i3 i4 i6 i8 i9 i10 i11 i17 i18 i19 i20 i21 i22 i23 i24 a7 a8 a13 a15 a18 a19 a20 a21 a22 a23 a25 a29 a30 a31 a32 r9n r9c og).2.2.2.2.2.2.2.2.2.2.2.2.1) (e13 : na32 = (F_x11_close u0 i1 i3 i4 i6 i8 i9 i10 i11 i17 i18 i19 i20 i21 i22 i23 i24 a7 a8 a13 a15 a18 a19 a20 a21 a22 a23 a25 a29 a30 a31 a32 r9n r9c og).2.2.2.2.2.2.2.2.2.2.2.2.2.1) (e14 : nog = (F_x11_close u0 i1 i3 i4 i6 i8 i9 i10 i11 i17 i18 i19 i20 i21 i22 i23 i24 a7 a8 a13 a15 a18 a19 a20 a21 a22 a23 a25 a29 a30 a31 a32 r9n r9c og).2.2.2.2.2.2.2.2.2.2.2.2.2.2) (f0 : v2 = (F_m12_close u0 j1 j4 j5 j6 j7 j18 b2 b8 b10 b11 b12 b15 b16 b17 b18 b19 b20 b21 b34 b35 b43 b44 b45 b46 b47 b48 b49 b50 b51 b52 b53).1) (f1 : nj18 = (F_m12_close u0 j1 j4 j5 j6 j7 j18 b2 b8 b10 b11 b12 b15 b16 b17 b18 b19 b20 b21 b34 b35 b43 b44 b45 b46 b47 b48 b49 b50 b51 b52 b53).2.1) (f2 : nb35 = (F_m12_close u0 j1 j4 j5 j6 j7 j18 b2 b8 b10 b11 b12 b15 b16 b17 b18 b19 b20 b21 b34 b35 b43 b44 b45 b46 b47 b48 b49 b50 b51 b52 b53).2.2.1) (f3 : nb43 = (F_m12_close u0 j1 j4 j5 j6 j7 j18 b2 b8 b10 b11 b12 b15 b16 b17 b18 b19 b20 b21 b34 b35 b43 b44 b45 b46 b47 b48 b49 b50 b51 b52 b53).2.2.2.1) (f4 : nb44 = (F_m12_close u0 j1 j4 j5 j6 j7 j18 b2 b8 b10 b11 b12 b15 b16 b17 b18 b19 b20 b21 b34 b35 b43 b44 b45 b46 b47 b48 b49 b50 b51 b52 b53).2.2.2.2.1) (f5 : nb45 = (F_m12_close u0 j1 j4 j5 j6 j7 j18 b2 b8 b10 b11 b12 b15 b16 b17 b18 b19 b20 b21 b34 b35 b43 b44 b45 b46 b47 b48 b49 b50 b51 b52 b53).2.2.2.2.2.1) (f6 : nb46 = (F_m12_close u0 j1 j4 j5 j6 j7 j18 b2 b8 b10 b11 b12 b15 b16 b17 b18 b19 b20 b21 b34 b35 b43 b44 b45 b46 b47 b48 b49 b50 b51 b52 b53).2.2.2.2.2.2.1) (f7 : nb47 = (F_m12_close u0 j1 j4 j5 j6 j7 j18 b2 b8 b10 b11 b12 b15 b16 b17 b18 b19 b20 b21 b34 b35 b43 b44 b45 b46 b47 b48 b49 b50 b51 b52 b53).2.2.2.2.2.2.2.1) (f8 : nb48 = (F_m12_close u0 j1 j4 j5 j6 j7 j18 b2 b8 b10 b11 b12 b15 b16 b17 b18 b19 b20 b21 b34 b35 b43 b44 b45 b46 b47 b48 b49 b50 b51 b52 b53).2.2.2.2.2.2.2.2.1) (f9 : nb51 = (F_m12_close u0 j1 j4 j5 j6 j7 j18 b2 b8 b10 b11 b12 b15 b16 b17 b18 b19 b20 b21 b34 b35 b43 b44 b45 b46 b47 b48 b49 b50 b51 b52 b53).2.2.2.2.2.2.2.2.2.1) (f10 : nb52 = (F_m12_close u0 j1 j4 j5 j6 j7 j18 b2 b8 b10 b11 b12 b15 b16 b17 b18 b19 b20 b21 b34 b35 b43 b44 b45 b46 b47 b48 b49 b50 b51 b52 b53).2.2.2.2.2.2.2.2.2.2.1) (f11 : nb53 = (F_m12_close u0 j1 j4 j5 j6 j7 j18 b2 b8 b10 b11 b12 b15 b16 b17 b18 b19 b20 b21 b34 b35 b43 b44 b45 b46 b47 b48 b49 b50 b51 b52 b53).2.2.2.2.2.2.2.2.2.2.2) : v1.toInt = v2.toInt ∧ R2 i3 i4 i6 i7 i10 ni11 nj18 a15 na29 na30 na31 na32 b2 b8 b10 b11 b12 b33 b34 nb35 b36 b37 b38 b39 b40 b41 b42 nb43 nb44 nb45 nb46 nb47 nb48 b49 b50 nb51 nb52 nb53 nog ogn ogc := by
  obtain ⟨⟨q0, q1, q2, q3, q6, q7, q9, q10⟩, ⟨g0, g1, g2, g3, g6, g7, g9, g10⟩, T, W, V, R, P, D, L, M1, C1⟩ := hR
  subst q0 q1 q2 q3 q6 q7 q9 q10
  obtain ⟨M, C, S, K, V2, Cs, Sd, X, E, E2⟩ := hh
  have hp := cntF_pos b35
  have E11 := E.1
  have r := R_close (u0 := u0) (i1 := i1) (i17 := i17) (i18 := i18) (i19 := i19) (i20 := i20) (i21 := i21) (i22 := i22) (i23 := i23) (i24 := i24) (a8 := a8) (r9n := r9n) (r9c := r9c) g3 g6 g7 g9 g10 (by rw [E11]; omega) (fun q hq => (C q hq).1.2.1) V P D L M S K V2 Cs Sd X E E2
  replace e0 := e0.symm
  subst e0
  replace e1 := e1.symm
  subst e1
  replace e2 := e2.symm
  subst e2
  replace e3 := e3.symm
  subst e3
  replace e4 := e4.symm
  subst e4
  replace e5 := e5.symm
  subst e5
  replace e6 := e6.symm
  subst e6
  replace e7 := e7.symm
  subst e7
  replace e8 := e8.symm
  subst e8
  replace e9 := e9.symm
  subst e9
  replace e10 := e10.symm
  subst e10
  replace e11 := e11.symm
  subst e11
  replace e12 := e12.symm
  subst e12
  replace e13 := e13.symm
  subst e13
  replace e14 := e14.symm
  subst e14
  replace f0 := f0.symm
  subst f0
  replace f1 := f1.symm
  subst f1
  replace f2 := f2.symm
  subst f2
  replace f3 := f3.symm
  subst f3
  replace f4 := f4.symm
  subst f4
  replace f5 := f5.symm
  subst f5
  replace f6 := f6.symm
  subst f6
  replace f7 := f7.symm
  subst f7
  replace f8 := f8.symm
  subst f8
  replace f9 := f9.symm
  subst f9
  replace f10 := f10.symm
  subst f10
  replace f11 := f11.symm
  subst f11
  obtain ⟨r0, r1_, r2_, r3_, r4_, r5_, r6_, r7_, r8_⟩ := r
  refine ⟨by rw [r0], M, fun q hq => ?_, r1_, r2_, r3_, Cs, r4_, r5_, r6_, r7_⟩
  rw [r8_ 0 q (by decide), r8_ 1 q (by decide), r8_ 2 q (by decide), r8_ 6 q (by decide)]
  exact C q hq
theorem R2_voids {i0 i1 i2 i3 i6 i7 i8 i9 i10 j0 j1 j2 j3 j4 j5 j6 j7 i4 i11 j18 u0 v1 ni8 ni11 v2 nj18 : Int32} {a1 a4 a5 a7 a8 a13 a18 a19 a20 a21 a22 a23 a24 a25 a26 b1 b2 b3 b4 b5 b8 b12 b13 b14 b15 b16 b17 b18 b19 b20 b21 b22 b23 b24 b25 b26 a15 a29 a30 a31 a32 b10 b11 b33 b34 b35 b36 b37 b38 b39 b40 b41 b42 b43 b44 b45 b46 b47 b48 b49 b50 b51 b52 b53 na29 na30 na31 na32 nb12 nb35 nb43 nb44 nb45 nb46 nb47 nb51 nb52 nb53 : Nat → Int32} {r9n rtn : Nat → Nat} {r9c rtc og nog : Nat → Nat → Int32} {ogn : Nat → Nat → Nat} {ogc : Nat → Nat → Nat → Int32} (hh : R2 i3 i4 i6 i7 i10 i11 j18 a15 a29 a30 a31 a32 b2 b8 b10 b11 b12 b33 b34 b35 b36 b37 b38 b39 b40 b41 b42 b43 b44 b45 b46 b47 b48 b49 b50 b51 b52 b53 og ogn ogc) (hR : R1 i0 i1 i2 i3 i6 i7 i8 i9 i10 a1 a4 a5 a7 a8 a13 a18 a19 a20 a21 a22 a23 a24 a25 a26 r9n r9c rtn rtc j0 j1 j2 j3 j4 j5 j6 j7 b1 b2 b3 b4 b5 b8 b12 b13 b14 b15 b16 b17 b18 b19 b20 b21 b22 b23 b24 b25 b26) (hc : j18.toInt + cntF b35 ≤ 1022) (e0 : v1 = (F_x11_voids u0 i1 i7 i8 i10 i11 a29 a30 a31 a32 og).1) (e1 : ni8 = (F_x11_voids u0 i1 i7 i8 i10 i11 a29 a30 a31 a32 og).2.1) (e2 : ni11 = (F_x11_voids u0 i1 i7 i8 i10 i11 a29 a30 a31 a32 og).2.2.1) (e3 : na29 = (F_x11_voids u0 i1 i7 i8 i10 i11 a29 a30 a31 a32 og).2.2.2.1) (e4 : na30 = (F_x11_voids u0 i1 i7 i8 i10 i11 a29 a30 a31 a32 og).2.2.2.2.1) (e5 : na31 = (F_x11_voids u0 i1 i7 i8 i10 i11 a29 a30 a31 a32 og).2.2.2.2.2.1) (e6 : na32 = (F_x11_voids u0 i1 i7 i8 i10 i11 a29 a30 a31 a32 og).2.2.2.2.2.2.1) (e7 : nog = (F_x11_voids u0 i1 i7 i8 i10 i11 a29 a30 a31 a32 og).2.2.2.2.2.2.2) (f0 : v2 = (F_m12_voids u0 j1 j5 j7 j18 b12 b34 b35 b43 b44 b45 b46 b47 b48 b51 b52 b53).1) (f1 : nj18 = (F_m12_voids u0 j1 j5 j7 j18 b12 b34 b35 b43 b44 b45 b46 b47 b48 b51 b52 b53).2.1) (f2 : nb12 = (F_m12_voids u0 j1 j5 j7 j18 b12 b34 b35 b43 b44 b45 b46 b47 b48 b51 b52 b53).2.2.1) (f3 : nb35 = (F_m12_voids u0 j1 j5 j7 j18 b12 b34 b35 b43 b44 b45 b46 b47 b48 b51 b52 b53).2.2.2.1) (f4 : nb43 = (F_m12_voids u0 j1 j5 j7 j18 b12 b34 b35 b43 b44 b45 b46 b47 b48 b51 b52 b53).2.2.2.2.1) (f5 : nb44 = (F_m12_voids u0 j1 j5 j7 j18 b12 b34 b35 b43 b44 b45 b46 b47 b48 b51 b52 b53).2.2.2.2.2.1) (f6 : nb45 = (F_m12_voids u0 j1 j5 j7 j18 b12 b34 b35 b43 b44 b45 b46 b47 b48 b51 b52 b53).2.2.2.2.2.2.1) (f7 : nb46 = (F_m12_voids u0 j1 j5 j7 j18 b12 b34 b35 b43 b44 b45 b46 b47 b48 b51 b52 b53).2.2.2.2.2.2.2.1) (f8 : nb47 = (F_m12_voids u0 j1 j5 j7 j18 b12 b34 b35 b43 b44 b45 b46 b47 b48 b51 b52 b53).2.2.2.2.2.2.2.2.1) (f9 : nb51 = (F_m12_voids u0 j1 j5 j7 j18 b12 b34 b35 b43 b44 b45 b46 b47 b48 b51 b52 b53).2.2.2.2.2.2.2.2.2.1) (f10 : nb52 = (F_m12_voids u0 j1 j5 j7 j18 b12 b34 b35 b43 b44 b45 b46 b47 b48 b51 b52 b53).2.2.2.2.2.2.2.2.2.2.1) (f11 : nb53 = (F_m12_voids u0 j1 j5 j7 j18 b12 b34 b35 b43 b44 b45 b46 b47 b48 b51 b52 b53).2.2.2.2.2.2.2.2.2.2.2) : v1.toInt = v2.toInt ∧ R2 i3 i4 i6 i7 i10 ni11 nj18 a15 na29 na30 na31 na32 b2 b8 b10 b11 nb12 b33 b34 nb35 b36 b37 b38 b39 b40 b41 b42 nb43 nb44 nb45 nb46 nb47 b48 b49 b50 nb51 nb52 nb53 nog ogn ogc := by
  obtain ⟨⟨q0, q1, q2, q3, q6, q7, q9, q10⟩, ⟨g0, g1, g2, g3, g6, g7, g9, g10⟩, T, W, V, R, P, D, L, M1, C1⟩ := hR
  subst q0 q1 q2 q3 q6 q7 q9 q10
  obtain ⟨M, C, S, K, V2, Cs, Sd, X, E, E2⟩ := hh
  have r := R_voids (u0 := u0) (i1 := i1) g10 g3.2 g7 D S K V2 Sd X E E2 (fun q hq => (C q hq).1.2.1) hc
  replace e0 := e0.symm
  subst e0
  replace e1 := e1.symm
  subst e1
  replace e2 := e2.symm
  subst e2
  replace e3 := e3.symm
  subst e3
  replace e4 := e4.symm
  subst e4
  replace e5 := e5.symm
  subst e5
  replace e6 := e6.symm
  subst e6
  replace e7 := e7.symm
  subst e7
  replace f0 := f0.symm
  subst f0
  replace f1 := f1.symm
  subst f1
  replace f2 := f2.symm
  subst f2
  replace f3 := f3.symm
  subst f3
  replace f4 := f4.symm
  subst f4
  replace f5 := f5.symm
  subst f5
  replace f6 := f6.symm
  subst f6
  replace f7 := f7.symm
  subst f7
  replace f8 := f8.symm
  subst f8
  replace f9 := f9.symm
  subst f9
  replace f10 := f10.symm
  subst f10
  replace f11 := f11.symm
  subst f11
  obtain ⟨r0, -, r1_, r2_, r3_, r4_, r5_, r6_, r7_, r8_⟩ := r
  refine ⟨by rw [r0], M, fun q hq => ?_, r1_, r2_, r3_, Cs, r4_, r5_, r6_, r7_⟩
  rw [r8_ 0 q (by decide), r8_ 1 q (by decide), r8_ 2 q (by decide), r8_ 6 q (by decide)]
  exact C q hq
theorem R2_fixed {i0 i1 i2 i3 i6 i7 i8 i9 i10 j0 j1 j2 j3 j4 j5 j6 j7 i4 i11 j18 u0 v1 v2 : Int32} {a1 a4 a5 a7 a8 a13 a18 a19 a20 a21 a22 a23 a24 a25 a26 b1 b2 b3 b4 b5 b8 b12 b13 b14 b15 b16 b17 b18 b19 b20 b21 b22 b23 b24 b25 b26 a15 a29 a30 a31 a32 b10 b11 b33 b34 b35 b36 b37 b38 b39 b40 b41 b42 b43 b44 b45 b46 b47 b48 b49 b50 b51 b52 b53 : Nat → Int32} {r9n rtn : Nat → Nat} {r9c rtc og : Nat → Nat → Int32} {ogn : Nat → Nat → Nat} {ogc : Nat → Nat → Nat → Int32} (hh : R2 i3 i4 i6 i7 i10 i11 j18 a15 a29 a30 a31 a32 b2 b8 b10 b11 b12 b33 b34 b35 b36 b37 b38 b39 b40 b41 b42 b43 b44 b45 b46 b47 b48 b49 b50 b51 b52 b53 og ogn ogc) (hR : R1 i0 i1 i2 i3 i6 i7 i8 i9 i10 a1 a4 a5 a7 a8 a13 a18 a19 a20 a21 a22 a23 a24 a25 a26 r9n r9c rtn rtc j0 j1 j2 j3 j4 j5 j6 j7 b1 b2 b3 b4 b5 b8 b12 b13 b14 b15 b16 b17 b18 b19 b20 b21 b22 b23 b24 b25 b26) (e0 : v1 = (F_x11_fixed u0 a29)) (f0 : v2 = (F_m12_fixed u0 j2 j7 b34 b35)) : v1.toInt = v2.toInt := by
  obtain ⟨⟨q0, q1, q2, q3, q6, q7, q9, q10⟩, ⟨g0, g1, g2, g3, g6, g7, g9, g10⟩, T, W, V, R, P, D, L, M1, C1⟩ := hR
  subst q0 q1 q2 q3 q6 q7 q9 q10
  obtain ⟨M, C, S, K, V2, Cs, Sd, X, E, E2⟩ := hh
  have r := R_fixed (u0 := u0) g3 g10 S X
  replace e0 := e0.symm
  subst e0
  replace f0 := f0.symm
  subst f0
  rw [r]
theorem R2_fixedOn {i0 i1 i2 i3 i6 i7 i8 i9 i10 j0 j1 j2 j3 j4 j5 j6 j7 i4 i11 j18 u0 u1 v1 v2 : Int32} {a1 a4 a5 a7 a8 a13 a18 a19 a20 a21 a22 a23 a24 a25 a26 b1 b2 b3 b4 b5 b8 b12 b13 b14 b15 b16 b17 b18 b19 b20 b21 b22 b23 b24 b25 b26 a15 a29 a30 a31 a32 b10 b11 b33 b34 b35 b36 b37 b38 b39 b40 b41 b42 b43 b44 b45 b46 b47 b48 b49 b50 b51 b52 b53 : Nat → Int32} {r9n rtn : Nat → Nat} {r9c rtc og : Nat → Nat → Int32} {ogn : Nat → Nat → Nat} {ogc : Nat → Nat → Nat → Int32} (hh : R2 i3 i4 i6 i7 i10 i11 j18 a15 a29 a30 a31 a32 b2 b8 b10 b11 b12 b33 b34 b35 b36 b37 b38 b39 b40 b41 b42 b43 b44 b45 b46 b47 b48 b49 b50 b51 b52 b53 og ogn ogc) (hR : R1 i0 i1 i2 i3 i6 i7 i8 i9 i10 a1 a4 a5 a7 a8 a13 a18 a19 a20 a21 a22 a23 a24 a25 a26 r9n r9c rtn rtc j0 j1 j2 j3 j4 j5 j6 j7 b1 b2 b3 b4 b5 b8 b12 b13 b14 b15 b16 b17 b18 b19 b20 b21 b22 b23 b24 b25 b26) (e0 : v1 = (F_x11_fixedOn u0 u1 i1 i11 a30 a31 a32)) (f0 : v2 = (F_m12_fixedOn u0 u1 j1 j2 j18 b51 b52 b53)) : v1.toInt = v2.toInt := by
  obtain ⟨⟨q0, q1, q2, q3, q6, q7, q9, q10⟩, ⟨g0, g1, g2, g3, g6, g7, g9, g10⟩, T, W, V, R, P, D, L, M1, C1⟩ := hR
  subst q0 q1 q2 q3 q6 q7 q9 q10
  obtain ⟨M, C, S, K, V2, Cs, Sd, X, E, E2⟩ := hh
  have r := R_fixedOn (u0 := u0) (u1 := u1) (i1 := i1) g3 E E2
  replace e0 := e0.symm
  subst e0
  replace f0 := f0.symm
  subst f0
  rw [r]
theorem R2_changes {i0 i1 i2 i3 i6 i7 i8 i9 i10 j0 j1 j2 j3 j4 j5 j6 j7 i4 i11 j18 u0 u1 u2 v1 v2 : Int32} {a1 a4 a5 a7 a8 a13 a18 a19 a20 a21 a22 a23 a24 a25 a26 b1 b2 b3 b4 b5 b8 b12 b13 b14 b15 b16 b17 b18 b19 b20 b21 b22 b23 b24 b25 b26 a15 a29 a30 a31 a32 b10 b11 b33 b34 b35 b36 b37 b38 b39 b40 b41 b42 b43 b44 b45 b46 b47 b48 b49 b50 b51 b52 b53 a2 b30 b31 b32 na2 nb30 nb31 nb32 : Nat → Int32} {r9n rtn : Nat → Nat} {r9c rtc og : Nat → Nat → Int32} {ogn : Nat → Nat → Nat} {ogc : Nat → Nat → Nat → Int32} (hh : R2 i3 i4 i6 i7 i10 i11 j18 a15 a29 a30 a31 a32 b2 b8 b10 b11 b12 b33 b34 b35 b36 b37 b38 b39 b40 b41 b42 b43 b44 b45 b46 b47 b48 b49 b50 b51 b52 b53 og ogn ogc) (hR : R1 i0 i1 i2 i3 i6 i7 i8 i9 i10 a1 a4 a5 a7 a8 a13 a18 a19 a20 a21 a22 a23 a24 a25 a26 r9n r9c rtn rtc j0 j1 j2 j3 j4 j5 j6 j7 b1 b2 b3 b4 b5 b8 b12 b13 b14 b15 b16 b17 b18 b19 b20 b21 b22 b23 b24 b25 b26) (e0 : v1 = (F_x11_changes u0 u1 u2 i1 i3 i10 i11 a2 a30 a31 a32 ogn ogc).1) (e1 : na2 = (F_x11_changes u0 u1 u2 i1 i3 i10 i11 a2 a30 a31 a32 ogn ogc).2) (f0 : v2 = (F_m12_changes u0 u1 u2 j1 j2 j18 b30 b31 b32 b40 b41 b51 b52 b53).1) (f1 : nb30 = (F_m12_changes u0 u1 u2 j1 j2 j18 b30 b31 b32 b40 b41 b51 b52 b53).2.1) (f2 : nb31 = (F_m12_changes u0 u1 u2 j1 j2 j18 b30 b31 b32 b40 b41 b51 b52 b53).2.2.1) (f3 : nb32 = (F_m12_changes u0 u1 u2 j1 j2 j18 b30 b31 b32 b40 b41 b51 b52 b53).2.2.2) : v1.toInt = v2.toInt := by
  obtain ⟨⟨q0, q1, q2, q3, q6, q7, q9, q10⟩, ⟨g0, g1, g2, g3, g6, g7, g9, g10⟩, T, W, V, R, P, D, L, M1, C1⟩ := hR
  subst q0 q1 q2 q3 q6 q7 q9 q10
  obtain ⟨M, C, S, K, V2, Cs, Sd, X, E, E2⟩ := hh
  have r := R_changes (u0 := u0) (u1 := u1) (u2 := u2) (i1 := i1) (a2 := a2) (b30 := b30) (b31 := b31) (b32 := b32) g3 g10 E C
  replace e0 := e0.symm
  subst e0
  replace f0 := f0.symm
  subst f0
  rw [r]
theorem R2_look {i0 i1 i2 i3 i6 i7 i8 i9 i10 j0 j1 j2 j3 j4 j5 j6 j7 i4 i11 j18 u0 u1 v1 v2 : Int32} {a1 a4 a5 a7 a8 a13 a18 a19 a20 a21 a22 a23 a24 a25 a26 b1 b2 b3 b4 b5 b8 b12 b13 b14 b15 b16 b17 b18 b19 b20 b21 b22 b23 b24 b25 b26 a15 a29 a30 a31 a32 b10 b11 b33 b34 b35 b36 b37 b38 b39 b40 b41 b42 b43 b44 b45 b46 b47 b48 b49 b50 b51 b52 b53 : Nat → Int32} {r9n rtn : Nat → Nat} {r9c rtc og : Nat → Nat → Int32} {ogn : Nat → Nat → Nat} {ogc : Nat → Nat → Nat → Int32} (hh : R2 i3 i4 i6 i7 i10 i11 j18 a15 a29 a30 a31 a32 b2 b8 b10 b11 b12 b33 b34 b35 b36 b37 b38 b39 b40 b41 b42 b43 b44 b45 b46 b47 b48 b49 b50 b51 b52 b53 og ogn ogc) (hR : R1 i0 i1 i2 i3 i6 i7 i8 i9 i10 a1 a4 a5 a7 a8 a13 a18 a19 a20 a21 a22 a23 a24 a25 a26 r9n r9c rtn rtc j0 j1 j2 j3 j4 j5 j6 j7 b1 b2 b3 b4 b5 b8 b12 b13 b14 b15 b16 b17 b18 b19 b20 b21 b22 b23 b24 b25 b26) (e0 : v1 = (F_x11_look u0 u1 i10 og ogn ogc)) (f0 : v2 = (F_m12_look u0 u1 j7 b33 b34 b35 b36 b37 b38 b40 b41 b42 b43 b44 b46)) : v1.toInt = v2.toInt := by
  obtain ⟨⟨q0, q1, q2, q3, q6, q7, q9, q10⟩, ⟨g0, g1, g2, g3, g6, g7, g9, g10⟩, T, W, V, R, P, D, L, M1, C1⟩ := hR
  subst q0 q1 q2 q3 q6 q7 q9 q10
  obtain ⟨M, C, S, K, V2, Cs, Sd, X, E, E2⟩ := hh
  have r := R_look (u0 := u0) (u1 := u1) g10 C S K
  replace e0 := e0.symm
  subst e0
  replace f0 := f0.symm
  subst f0
  rw [r]
theorem R2_render {i0 i1 i2 i3 i6 i7 i8 i9 i10 j0 j1 j2 j3 j4 j5 j6 j7 i4 i11 j18 u0 u1 u2 i17 i18 i19 i20 i21 i22 i23 i24 i35 v1 ni0 ni10 ni17 ni18 ni19 ni20 ni21 ni22 ni23 ni24 ni35 v2 nj0 nj7 : Int32} {a1 a4 a5 a7 a8 a13 a18 a19 a20 a21 a22 a23 a24 a25 a26 b1 b2 b3 b4 b5 b8 b12 b13 b14 b15 b16 b17 b18 b19 b20 b21 b22 b23 b24 b25 b26 a15 a29 a30 a31 a32 b10 b11 b33 b34 b35 b36 b37 b38 b39 b40 b41 b42 b43 b44 b45 b46 b47 b48 b49 b50 b51 b52 b53 nb33 nb34 nb36 nb37 nb38 nb39 nb40 nb41 nb42 nb43 nb46 : Nat → Int32} {r9n rtn : Nat → Nat} {r9c rtc og nog : Nat → Nat → Int32} {ogn nogn : Nat → Nat → Nat} {ogc nogc : Nat → Nat → Nat → Int32} (hh : R2 i3 i4 i6 i7 i10 i11 j18 a15 a29 a30 a31 a32 b2 b8 b10 b11 b12 b33 b34 b35 b36 b37 b38 b39 b40 b41 b42 b43 b44 b45 b46 b47 b48 b49 b50 b51 b52 b53 og ogn ogc) (hR : R1 i0 i1 i2 i3 i6 i7 i8 i9 i10 a1 a4 a5 a7 a8 a13 a18 a19 a20 a21 a22 a23 a24 a25 a26 r9n r9c rtn rtc j0 j1 j2 j3 j4 j5 j6 j7 b1 b2 b3 b4 b5 b8 b12 b13 b14 b15 b16 b17 b18 b19 b20 b21 b22 b23 b24 b25 b26) (hk : KI j6 b18 b19 b20 b21 b22) (e0 : v1 = (F_x11_render u0 u1 u2 i0 i1 i2 i3 i6 i7 i8 i9 i10 i17 i18 i19 i20 i21 i22 i23 i24 i35 a1 a7 a8 a13 a18 a19 a20 a21 a22 a23 a25 r9n r9c og ogn ogc).1) (e1 : ni0 = (F_x11_render u0 u1 u2 i0 i1 i2 i3 i6 i7 i8 i9 i10 i17 i18 i19 i20 i21 i22 i23 i24 i35 a1 a7 a8 a13 a18 a19 a20 a21 a22 a23 a25 r9n r9c og ogn ogc).2.1) (e2 : ni10 = (F_x11_render u0 u1 u2 i0 i1 i2 i3 i6 i7 i8 i9 i10 i17 i18 i19 i20 i21 i22 i23 i24 i35 a1 a7 a8 a13 a18 a19 a20 a21 a22 a23 a25 r9n r9c og ogn ogc).2.2.1) (e3 : ni17 = (F_x11_render u0 u1 u2 i0 i1 i2 i3 i6 i7 i8 i9 i10 i17 i18 i19 i20 i21 i22 i23 i24 i35 a1 a7 a8 a13 a18 a19 a20 a21 a22 a23 a25 r9n r9c og ogn ogc).2.2.2.1) (e4 : ni18 = (F_x11_render u0 u1 u2 i0 i1 i2 i3 i6 i7 i8 i9 i10 i17 i18 i19 i20 i21 i22 i23 i24 i35 a1 a7 a8 a13 a18 a19 a20 a21 a22 a23 a25 r9n r9c og ogn ogc).2.2.2.2.1) (e5 : ni19 = (F_x11_render u0 u1 u2 i0 i1 i2 i3 i6 i7 i8 i9 i10 i17 i18 i19 i20 i21 i22 i23 i24 i35 a1 a7 a8 a13 a18 a19 a20 a21 a22 a23 a25 r9n r9c og ogn ogc).2.2.2.2.2.1) (e6 : ni20 = (F_x11_render u0 u1 u2 i0 i1 i2 i3 i6 i7 i8 i9 i10 i17 i18 i19 i20 i21 i22 i23 i24 i35 a1 a7 a8 a13 a18 a19 a20 a21 a22 a23 a25 r9n r9c og ogn ogc).2.2.2.2.2.2.1) (e7 : ni21 = (F_x11_render u0 u1 u2 i0 i1 i2 i3 i6 i7 i8 i9 i10 i17 i18 i19 i20 i21 i22 i23 i24 i35 a1 a7 a8 a13 a18 a19 a20 a21 a22 a23 a25 r9n r9c og ogn ogc).2.2.2.2.2.2.2.1) (e8 : ni22 = (F_x11_render u0 u1 u2 i0 i1 i2 i3 i6 i7 i8 i9 i10 i17 i18 i19 i20 i21 i22 i23 i24 i35 a1 a7 a8 a13 a18 a19 a20 a21 a22 a23 a25 r9n r9c og ogn ogc).2.2.2.2.2.2.2.2.1) (e9 : ni23 = (F_x11_render u0 u1 u2 i0 i1 i2 i3 i6 i7 i8 i9 i10 i17 i18 i19 i20 i21 i22 i23 i24 i35 a1 a7 a8 a13 a18 a19 a20 a21 a22 a23 a25 r9n r9c og ogn ogc).2.2.2.2.2.2.2.2.2.1) (e10 : ni24 = (F_x11_render u0 u1 u2 i0 i1 i2 i3 i6 i7 i8 i9 i10 i17 i18 i19 i20 i21 i22 i23 i24 i35 a1 a7 a8 a13 a18 a19 a20 a21 a22 a23 a25 r9n r9c og ogn ogc).2.2.2.2.2.2.2.2.2.2.1) (e11 : ni35 = (F_x11_render u0 u1 u2 i0 i1 i2 i3 i6 i7 i8 i9 i10 i17 i18 i19 i20 i21 i22 i23 i24 i35 a1 a7 a8 a13 a18 a19 a20 a21 a22 a23 a25 r9n r9c og ogn ogc).2.2.2.2.2.2.2.2.2.2.2.1) (e12 : nog = (F_x11_render u0 u1 u2 i0 i1 i2 i3 i6 i7 i8 i9 i10 i17 i18 i19 i20 i21 i22 i23 i24 i35 a1 a7 a8 a13 a18 a19 a20 a21 a22 a23 a25 r9n r9c og ogn ogc).2.2.2.2.2.2.2.2.2.2.2.2.1) (e13 : nogn = (F_x11_render u0 u1 u2 i0 i1 i2 i3 i6 i7 i8 i9 i10 i17 i18 i19 i20 i21 i22 i23 i24 i35 a1 a7 a8 a13 a18 a19 a20 a21 a22 a23 a25 r9n r9c og ogn ogc).2.2.2.2.2.2.2.2.2.2.2.2.2.1) (e14 : nogc = (F_x11_render u0 u1 u2 i0 i1 i2 i3 i6 i7 i8 i9 i10 i17 i18 i19 i20 i21 i22 i23 i24 i35 a1 a7 a8 a13 a18 a19 a20 a21 a22 a23 a25 r9n r9c og ogn ogc).2.2.2.2.2.2.2.2.2.2.2.2.2.2) (f0 : v2 = (F_m12_render u0 u1 u2 j0 j1 j2 j3 j4 j5 j6 j7 b1 b2 b4 b5 b8 b12 b15 b16 b17 b18 b19 b20 b21 b33 b34 b36 b37 b38 b39 b40 b41 b42 b43 b46).1) (f1 : nj0 = (F_m12_render u0 u1 u2 j0 j1 j2 j3 j4 j5 j6 j7 b1 b2 b4 b5 b8 b12 b15 b16 b17 b18 b19 b20 b21 b33 b34 b36 b37 b38 b39 b40 b41 b42 b43 b46).2.1) (f2 : nj7 = (F_m12_render u0 u1 u2 j0 j1 j2 j3 j4 j5 j6 j7 b1 b2 b4 b5 b8 b12 b15 b16 b17 b18 b19 b20 b21 b33 b34 b36 b37 b38 b39 b40 b41 b42 b43 b46).2.2.1) (f3 : nb33 = (F_m12_render u0 u1 u2 j0 j1 j2 j3 j4 j5 j6 j7 b1 b2 b4 b5 b8 b12 b15 b16 b17 b18 b19 b20 b21 b33 b34 b36 b37 b38 b39 b40 b41 b42 b43 b46).2.2.2.1) (f4 : nb34 = (F_m12_render u0 u1 u2 j0 j1 j2 j3 j4 j5 j6 j7 b1 b2 b4 b5 b8 b12 b15 b16 b17 b18 b19 b20 b21 b33 b34 b36 b37 b38 b39 b40 b41 b42 b43 b46).2.2.2.2.1) (f5 : nb36 = (F_m12_render u0 u1 u2 j0 j1 j2 j3 j4 j5 j6 j7 b1 b2 b4 b5 b8 b12 b15 b16 b17 b18 b19 b20 b21 b33 b34 b36 b37 b38 b39 b40 b41 b42 b43 b46).2.2.2.2.2.1) (f6 : nb37 = (F_m12_render u0 u1 u2 j0 j1 j2 j3 j4 j5 j6 j7 b1 b2 b4 b5 b8 b12 b15 b16 b17 b18 b19 b20 b21 b33 b34 b36 b37 b38 b39 b40 b41 b42 b43 b46).2.2.2.2.2.2.1) (f7 : nb38 = (F_m12_render u0 u1 u2 j0 j1 j2 j3 j4 j5 j6 j7 b1 b2 b4 b5 b8 b12 b15 b16 b17 b18 b19 b20 b21 b33 b34 b36 b37 b38 b39 b40 b41 b42 b43 b46).2.2.2.2.2.2.2.1) (f8 : nb39 = (F_m12_render u0 u1 u2 j0 j1 j2 j3 j4 j5 j6 j7 b1 b2 b4 b5 b8 b12 b15 b16 b17 b18 b19 b20 b21 b33 b34 b36 b37 b38 b39 b40 b41 b42 b43 b46).2.2.2.2.2.2.2.2.1) (f9 : nb40 = (F_m12_render u0 u1 u2 j0 j1 j2 j3 j4 j5 j6 j7 b1 b2 b4 b5 b8 b12 b15 b16 b17 b18 b19 b20 b21 b33 b34 b36 b37 b38 b39 b40 b41 b42 b43 b46).2.2.2.2.2.2.2.2.2.1) (f10 : nb41 = (F_m12_render u0 u1 u2 j0 j1 j2 j3 j4 j5 j6 j7 b1 b2 b4 b5 b8 b12 b15 b16 b17 b18 b19 b20 b21 b33 b34 b36 b37 b38 b39 b40 b41 b42 b43 b46).2.2.2.2.2.2.2.2.2.2.1) (f11 : nb42 = (F_m12_render u0 u1 u2 j0 j1 j2 j3 j4 j5 j6 j7 b1 b2 b4 b5 b8 b12 b15 b16 b17 b18 b19 b20 b21 b33 b34 b36 b37 b38 b39 b40 b41 b42 b43 b46).2.2.2.2.2.2.2.2.2.2.2.1) (f12 : nb43 = (F_m12_render u0 u1 u2 j0 j1 j2 j3 j4 j5 j6 j7 b1 b2 b4 b5 b8 b12 b15 b16 b17 b18 b19 b20 b21 b33 b34 b36 b37 b38 b39 b40 b41 b42 b43 b46).2.2.2.2.2.2.2.2.2.2.2.2.1) (f13 : nb46 = (F_m12_render u0 u1 u2 j0 j1 j2 j3 j4 j5 j6 j7 b1 b2 b4 b5 b8 b12 b15 b16 b17 b18 b19 b20 b21 b33 b34 b36 b37 b38 b39 b40 b41 b42 b43 b46).2.2.2.2.2.2.2.2.2.2.2.2.2) : v1.toInt = v2.toInt ∧ R2 i3 i4 i6 i7 ni10 i11 j18 a15 a29 a30 a31 a32 b2 b8 b10 b11 b12 nb33 nb34 b35 nb36 nb37 nb38 nb39 nb40 nb41 nb42 nb43 b44 b45 nb46 b47 b48 b49 b50 b51 b52 b53 nog nogn nogc := by
  obtain ⟨⟨q0, q1, q2, q3, q6, q7, q9, q10⟩, ⟨g0, g1, g2, g3, g6, g7, g9, g10⟩, T, W, V, R, P, D, L, M1, C1⟩ := hR
  subst q0 q1 q2 q3 q6 q7 q9 q10
  obtain ⟨M, C, S, K, V2, Cs, Sd, X, E, E2⟩ := hh
  have r := R_render (u0 := u0) (u1 := u1) (u2 := u2) (i1 := i1) (i17 := i17) (i18 := i18) (i19 := i19) (i20 := i20) (i21 := i21) (i22 := i22) (i23 := i23) (i24 := i24) (i35 := i35) (a8 := a8) (og := og) (ogn := ogn) (ogc := ogc) (b33 := b33) (b34 := b34) (b36 := b36) (b37 := b37) (b38 := b38) (b39 := b39) (b40 := b40) (b41 := b41) (b42 := b42) (b43 := b43) (b46 := b46) g0 g10 g2 g3 g7 g6 g9 T V P D L hk R
  obtain ⟨r0, -, -, -, -, rr⟩ := r
  rw [← e0, ← f0] at r0
  rcases rr with ⟨r1_, ⟨r2_, r3_, r4_⟩, r5_⟩ | ⟨r1_, r2_, r3_⟩
  · rw [← e2] at r1_
    rw [← e12] at r2_
    rw [← e13] at r3_
    rw [← e14] at r4_
    have h3 : nb33 = b33 := f3.trans (congrArg (fun p => p.1) r5_)
    have h4 : nb34 = b34 := f4.trans (congrArg (fun p => p.2.1) r5_)
    have h5 : nb36 = b36 := f5.trans (congrArg (fun p => p.2.2.1) r5_)
    have h6 : nb37 = b37 := f6.trans (congrArg (fun p => p.2.2.2.1) r5_)
    have h7 : nb38 = b38 := f7.trans (congrArg (fun p => p.2.2.2.2.1) r5_)
    have h8 : nb39 = b39 := f8.trans (congrArg (fun p => p.2.2.2.2.2.1) r5_)
    have h9 : nb40 = b40 := f9.trans (congrArg (fun p => p.2.2.2.2.2.2.1) r5_)
    have h10 : nb41 = b41 := f10.trans (congrArg (fun p => p.2.2.2.2.2.2.2.1) r5_)
    have h11 : nb42 = b42 := f11.trans (congrArg (fun p => p.2.2.2.2.2.2.2.2.1) r5_)
    have h12 : nb43 = b43 := f12.trans (congrArg (fun p => p.2.2.2.2.2.2.2.2.2.1) r5_)
    have h13 : nb46 = b46 := f13.trans (congrArg (fun p => p.2.2.2.2.2.2.2.2.2.2) r5_)
    subst r1_ r2_ r3_ r4_ h3 h4 h5 h6 h7 h8 h9 h10 h11 h12 h13
    exact ⟨by rw [r0], M, C, S, K, V2, Cs, Sd, X, E, E2⟩
  · rw [← e2] at r2_
    rw [← e12, ← e13, ← e14, ← f3, ← f4, ← f5, ← f6, ← f7, ← f8, ← f9, ← f10, ← f11, ← f12, ← f13] at r3_
    obtain ⟨I, hI⟩ : ∃ I : Nat, i10.toInt = (I : Int) := ⟨i10.toInt.toNat, by omega⟩
    rw [show i10.toInt.toNat = I by omega] at r3_
    have hj : ni10.toInt = (I : Int) + 1 := by omega
    exact ⟨by rw [r0], M, NEW_RNC r3_ C hI hj, NEW_RNS r3_ S hI hj (by omega), NEW_KEP r3_ K hI hj, NEW_VOT r3_ V2 hI hj (by omega), NEW_CST r3_ Cs V2 hI hj (by omega), NEW_STD r3_ Sd S hI hj (by omega), NEW_FXD r3_ X S hI hj (by omega), TEL_i10 E (by omega), E2⟩
theorem R2_one {i0 i1 i2 i3 i6 i7 i8 i9 i10 j0 j1 j2 j3 j4 j5 j6 j7 i4 i11 j18 i17 i18 i19 i20 i21 i22 i23 i24 i25 i26 i30 j26 v1 ni17 ni18 ni19 ni20 ni21 ni22 ni23 ni24 ni25 ni26 ni31 ni32 v2 : Int32} {ptn nptn : Nat} {a1 a4 a5 a7 a8 a13 a18 a19 a20 a21 a22 a23 a24 a25 a26 b1 b2 b3 b4 b5 b8 b12 b13 b14 b15 b16 b17 b18 b19 b20 b21 b22 b23 b24 b25 b26 a15 a29 a30 a31 a32 b10 b11 b33 b34 b35 b36 b37 b38 b39 b40 b41 b42 b43 b44 b45 b46 b47 b48 b49 b50 b51 b52 b53 a43 a44 a45 a47 a48 a49 ptc b28 b29 b55 b56 b57 b58 b59 b60 na47 na48 na49 nptc nb28 nb29 nb59 nb60 : Nat → Int32} {l46 : Nat → Int64} {r9n rtn : Nat → Nat} {r9c rtc og : Nat → Nat → Int32} {ogn : Nat → Nat → Nat} {ogc : Nat → Nat → Nat → Int32} (hh : R2 i3 i4 i6 i7 i10 i11 j18 a15 a29 a30 a31 a32 b2 b8 b10 b11 b12 b33 b34 b35 b36 b37 b38 b39 b40 b41 b42 b43 b44 b45 b46 b47 b48 b49 b50 b51 b52 b53 og ogn ogc) (hR : R1 i0 i1 i2 i3 i6 i7 i8 i9 i10 a1 a4 a5 a7 a8 a13 a18 a19 a20 a21 a22 a23 a24 a25 a26 r9n r9c rtn rtc j0 j1 j2 j3 j4 j5 j6 j7 b1 b2 b3 b4 b5 b8 b12 b13 b14 b15 b16 b17 b18 b19 b20 b21 b22 b23 b24 b25 b26) (hk : KI j6 b18 b19 b20 b21 b22) (hO : RO i30 a43 a44 a45 j26 b55 b56 b57) (hA : RA l46 b58) (hT : TRN i10 ogn ogc) (hs40 : ∀ j : Nat, (j : Int) < i30.toInt → 0 ≤ (b55 j).toInt ∧ (b55 j).toInt ≤ 39) (e0 : v1 = (F_x11_one i1 i3 i6 i9 i10 i17 i18 i19 i20 i21 i22 i23 i24 i25 i26 i30 a7 a8 a13 a18 a19 a20 a21 a22 a23 a24 a25 a26 a29 a43 a44 a45 a47 a48 a49 l46 r9n r9c ogn ogc rtn rtc ptn ptc).1) (e1 : ni17 = (F_x11_one i1 i3 i6 i9 i10 i17 i18 i19 i20 i21 i22 i23 i24 i25 i26 i30 a7 a8 a13 a18 a19 a20 a21 a22 a23 a24 a25 a26 a29 a43 a44 a45 a47 a48 a49 l46 r9n r9c ogn ogc rtn rtc ptn ptc).2.1) (e2 : ni18 = (F_x11_one i1 i3 i6 i9 i10 i17 i18 i19 i20 i21 i22 i23 i24 i25 i26 i30 a7 a8 a13 a18 a19 a20 a21 a22 a23 a24 a25 a26 a29 a43 a44 a45 a47 a48 a49 l46 r9n r9c ogn ogc rtn rtc ptn ptc).2.2.1) (e3 : ni19 = (F_x11_one i1 i3 i6 i9 i10 i17 i18 i19 i20 i21 i22 i23 i24 i25 i26 i30 a7 a8 a13 a18 a19 a20 a21 a22 a23 a24 a25 a26 a29 a43 a44 a45 a47 a48 a49 l46 r9n r9c ogn ogc rtn rtc ptn ptc).2.2.2.1) (e4 : ni20 = (F_x11_one i1 i3 i6 i9 i10 i17 i18 i19 i20 i21 i22 i23 i24 i25 i26 i30 a7 a8 a13 a18 a19 a20 a21 a22 a23 a24 a25 a26 a29 a43 a44 a45 a47 a48 a49 l46 r9n r9c ogn ogc rtn rtc ptn ptc).2.2.2.2.1) (e5 : ni21 = (F_x11_one i1 i3 i6 i9 i10 i17 i18 i19 i20 i21 i22 i23 i24 i25 i26 i30 a7 a8 a13 a18 a19 a20 a21 a22 a23 a24 a25 a26 a29 a43 a44 a45 a47 a48 a49 l46 r9n r9c ogn ogc rtn rtc ptn ptc).2.2.2.2.2.1) (e6 : ni22 = (F_x11_one i1 i3 i6 i9 i10 i17 i18 i19 i20 i21 i22 i23 i24 i25 i26 i30 a7 a8 a13 a18 a19 a20 a21 a22 a23 a24 a25 a26 a29 a43 a44 a45 a47 a48 a49 l46 r9n r9c ogn ogc rtn rtc ptn ptc).2.2.2.2.2.2.1) (e7 : ni23 = (F_x11_one i1 i3 i6 i9 i10 i17 i18 i19 i20 i21 i22 i23 i24 i25 i26 i30 a7 a8 a13 a18 a19 a20 a21 a22 a23 a24 a25 a26 a29 a43 a44 a45 a47 a48 a49 l46 r9n r9c ogn ogc rtn rtc ptn ptc).2.2.2.2.2.2.2.1) (e8 : ni24 = (F_x11_one i1 i3 i6 i9 i10 i17 i18 i19 i20 i21 i22 i23 i24 i25 i26 i30 a7 a8 a13 a18 a19 a20 a21 a22 a23 a24 a25 a26 a29 a43 a44 a45 a47 a48 a49 l46 r9n r9c ogn ogc rtn rtc ptn ptc).2.2.2.2.2.2.2.2.1) (e9 : ni25 = (F_x11_one i1 i3 i6 i9 i10 i17 i18 i19 i20 i21 i22 i23 i24 i25 i26 i30 a7 a8 a13 a18 a19 a20 a21 a22 a23 a24 a25 a26 a29 a43 a44 a45 a47 a48 a49 l46 r9n r9c ogn ogc rtn rtc ptn ptc).2.2.2.2.2.2.2.2.2.1) (e10 : ni26 = (F_x11_one i1 i3 i6 i9 i10 i17 i18 i19 i20 i21 i22 i23 i24 i25 i26 i30 a7 a8 a13 a18 a19 a20 a21 a22 a23 a24 a25 a26 a29 a43 a44 a45 a47 a48 a49 l46 r9n r9c ogn ogc rtn rtc ptn ptc).2.2.2.2.2.2.2.2.2.2.1) (e11 : ni31 = (F_x11_one i1 i3 i6 i9 i10 i17 i18 i19 i20 i21 i22 i23 i24 i25 i26 i30 a7 a8 a13 a18 a19 a20 a21 a22 a23 a24 a25 a26 a29 a43 a44 a45 a47 a48 a49 l46 r9n r9c ogn ogc rtn rtc ptn ptc).2.2.2.2.2.2.2.2.2.2.2.1) (e12 : ni32 = (F_x11_one i1 i3 i6 i9 i10 i17 i18 i19 i20 i21 i22 i23 i24 i25 i26 i30 a7 a8 a13 a18 a19 a20 a21 a22 a23 a24 a25 a26 a29 a43 a44 a45 a47 a48 a49 l46 r9n r9c ogn ogc rtn rtc ptn ptc).2.2.2.2.2.2.2.2.2.2.2.2.1) (e13 : na47 = (F_x11_one i1 i3 i6 i9 i10 i17 i18 i19 i20 i21 i22 i23 i24 i25 i26 i30 a7 a8 a13 a18 a19 a20 a21 a22 a23 a24 a25 a26 a29 a43 a44 a45 a47 a48 a49 l46 r9n r9c ogn ogc rtn rtc ptn ptc).2.2.2.2.2.2.2.2.2.2.2.2.2.1) (e14 : na48 = (F_x11_one i1 i3 i6 i9 i10 i17 i18 i19 i20 i21 i22 i23 i24 i25 i26 i30 a7 a8 a13 a18 a19 a20 a21 a22 a23 a24 a25 a26 a29 a43 a44 a45 a47 a48 a49 l46 r9n r9c ogn ogc rtn rtc ptn ptc).2.2.2.2.2.2.2.2.2.2.2.2.2.2.1) (e15 : na49 = (F_x11_one i1 i3 i6 i9 i10 i17 i18 i19 i20 i21 i22 i23 i24 i25 i26 i30 a7 a8 a13 a18 a19 a20 a21 a22 a23 a24 a25 a26 a29 a43 a44 a45 a47 a48 a49 l46 r9n r9c ogn ogc rtn rtc ptn ptc).2.2.2.2.2.2.2.2.2.2.2.2.2.2.2.1) (e16 : nptn = (F_x11_one i1 i3 i6 i9 i10 i17 i18 i19 i20 i21 i22 i23 i24 i25 i26 i30 a7 a8 a13 a18 a19 a20 a21 a22 a23 a24 a25 a26 a29 a43 a44 a45 a47 a48 a49 l46 r9n r9c ogn ogc rtn rtc ptn ptc).2.2.2.2.2.2.2.2.2.2.2.2.2.2.2.2.1) (e17 : nptc = (F_x11_one i1 i3 i6 i9 i10 i17 i18 i19 i20 i21 i22 i23 i24 i25 i26 i30 a7 a8 a13 a18 a19 a20 a21 a22 a23 a24 a25 a26 a29 a43 a44 a45 a47 a48 a49 l46 r9n r9c ogn ogc rtn rtc ptn ptc).2.2.2.2.2.2.2.2.2.2.2.2.2.2.2.2.2) (f0 : v2 = (F_m12_one j1 j2 j4 j6 j7 j26 b2 b3 b4 b8 b15 b16 b17 b18 b19 b20 b21 b22 b23 b24 b25 b26 b28 b29 b34 b35 b38 b39 b40 b41 b42 b55 b56 b57 b58 b59 b60).1) (f1 : nb28 = (F_m12_one j1 j2 j4 j6 j7 j26 b2 b3 b4 b8 b15 b16 b17 b18 b19 b20 b21 b22 b23 b24 b25 b26 b28 b29 b34 b35 b38 b39 b40 b41 b42 b55 b56 b57 b58 b59 b60).2.1) (f2 : nb29 = (F_m12_one j1 j2 j4 j6 j7 j26 b2 b3 b4 b8 b15 b16 b17 b18 b19 b20 b21 b22 b23 b24 b25 b26 b28 b29 b34 b35 b38 b39 b40 b41 b42 b55 b56 b57 b58 b59 b60).2.2.1) (f3 : nb59 = (F_m12_one j1 j2 j4 j6 j7 j26 b2 b3 b4 b8 b15 b16 b17 b18 b19 b20 b21 b22 b23 b24 b25 b26 b28 b29 b34 b35 b38 b39 b40 b41 b42 b55 b56 b57 b58 b59 b60).2.2.2.1) (f4 : nb60 = (F_m12_one j1 j2 j4 j6 j7 j26 b2 b3 b4 b8 b15 b16 b17 b18 b19 b20 b21 b22 b23 b24 b25 b26 b28 b29 b34 b35 b38 b39 b40 b41 b42 b55 b56 b57 b58 b59 b60).2.2.2.2) : v1.toInt = v2.toInt := by
  obtain ⟨⟨q0, q1, q2, q3, q6, q7, q9, q10⟩, ⟨g0, g1, g2, g3, g6, g7, g9, g10⟩, T, W, V, R, P, D, L, M1, C1⟩ := hR
  subst q0 q1 q2 q3 q6 q7 q9 q10
  obtain ⟨M, C, S, K, V2, Cs, Sd, X, E, E2⟩ := hh
  have q26 := hO.1
  subst q26
  have r := R_one (day := i1) (i17 := i17) (i18 := i18) (i19 := i19) (i20 := i20) (i21 := i21) (i22 := i22) (i23 := i23) (i24 := i24) (i25 := i25) (i26 := i26) (a47 := a47) (a48 := a48) (a49 := a49) (ptn := ptn) (ptc := ptc) (b28 := b28) (b29 := b29) (b59 := b59) (b60 := b60) g3 g6 g9 V M1 P L hk R C1 C X g10 hT hO hA hs40
  replace e0 := e0.symm
  subst e0
  replace f0 := f0.symm
  subst f0
  rw [r]
