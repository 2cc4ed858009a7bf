/-! RENDER, on both sides: the tape, and the new RENDERING -/
theorem E_x11_render {u0 : Int32} {u1 : Int32} {u2 : Int32} {i0 : Int32} {i1 : Int32} {i2 : Int32} {i3 : Int32} {i6 : Int32} {i7 : Int32} {i8 : Int32} {i9 : Int32} {i10 : Int32} {i17 : Int32} {i18 : Int32} {i19 : Int32} {i20 : Int32} {i21 : Int32} {i22 : Int32} {i23 : Int32} {i24 : Int32} {i35 : Int32} {a1 : Nat → Int32} {a7 : Nat → Int32} {a8 : Nat → Int32} {a13 : Nat → Int32} {a18 : Nat → Int32} {a19 : Nat → Int32} {a20 : Nat → Int32} {a21 : Nat → Int32} {a22 : Nat → Int32} {a23 : Nat → Int32} {a25 : Nat → Int32} {r9n : Nat → Nat} {r9c : Nat → Nat → Int32} {og : Nat → Nat → Int32} {ogn : Nat → Nat → Nat} {ogc : Nat → Nat → Nat → Int32} : F_x11_render u0 u1 u2 i0 i1 i2 i3 i6 i7 i8 i9 i10 i17 i18 i19 i20 i21 i22 i23 i24 i35 a1 a7 a8 a13 a18 a19 a20 a21 a22 a23 a25 r9n r9c og ogn ogc = if (F_x4_hasScholar u0 i7).toInt = 0 then ((-1 : Int32), i0, i10, i17, i18, i19, i20, i21, i22, i23, i24, i35, og, ogn, ogc) else (if (F_x4_isVoid u0 i8).toInt ≠ 0 then ((-1 : Int32), i0, i10, i17, i18, i19, i20, i21, i22, i23, i24, i35, og, ogn, ogc) else (if (F_x9_has u1 i3).toInt = 0 then ((-1 : Int32), i0, i10, i17, i18, i19, i20, i21, i22, i23, i24, i35, og, ogn, ogc) else (if (F_x8_isFull i10).toInt = 0 then (if u2.toInt < 1 then ((-1 : Int32), i0, i10, i17, i18, i19, i20, i21, i22, i23, i24, i35, og, ogn, ogc) else (if u2.toInt > 12 then ((-1 : Int32), i0, i10, i17, i18, i19, i20, i21, i22, i23, i24, i35, og, ogn, ogc) else (if ((2 : Int32) * u2).toInt ≤ i0.toInt then (if (Int32.ofNat (F_x9_rowOf u1 (F_x6_firstCopy (F_x6_aim u1 i1 i3 i6 i9 a7 a8 a13 a18 a19 a20 a21 a22 a23 a25 r9n r9c).2.2.2.2.1) i3 r9n r9c).1).toInt = 0 then ((-1 : Int32), i0, i10, (F_x6_aim u1 i1 i3 i6 i9 a7 a8 a13 a18 a19 a20 a21 a22 a23 a25 r9n r9c).1, (F_x6_aim u1 i1 i3 i6 i9 a7 a8 a13 a18 a19 a20 a21 a22 a23 a25 r9n r9c).2.1, (F_x6_aim u1 i1 i3 i6 i9 a7 a8 a13 a18 a19 a20 a21 a22 a23 a25 r9n r9c).2.2.1, (F_x6_aim u1 i1 i3 i6 i9 a7 a8 a13 a18 a19 a20 a21 a22 a23 a25 r9n r9c).2.2.2.1, (F_x6_aim u1 i1 i3 i6 i9 a7 a8 a13 a18 a19 a20 a21 a22 a23 a25 r9n r9c).2.2.2.2.1, (F_x6_aim u1 i1 i3 i6 i9 a7 a8 a13 a18 a19 a20 a21 a22 a23 a25 r9n r9c).2.2.2.2.2.1, (F_x6_aim u1 i1 i3 i6 i9 a7 a8 a13 a18 a19 a20 a21 a22 a23 a25 r9n r9c).2.2.2.2.2.2.1, (F_x6_aim u1 i1 i3 i6 i9 a7 a8 a13 a18 a19 a20 a21 a22 a23 a25 r9n r9c).2.2.2.2.2.2.2, i35, og, ogn, ogc) else (if (F_x11_tapeHasSlots u2 (Int32.ofNat (F_x9_rowOf u1 (F_x6_firstCopy (F_x6_aim u1 i1 i3 i6 i9 a7 a8 a13 a18 a19 a20 a21 a22 a23 a25 r9n r9c).2.2.2.2.1) i3 r9n r9c).1) i2 a1).toInt ≠ 0 then ((F_x8_enter u0 u1 (F_x6_firstCopy (F_x6_aim u1 i1 i3 i6 i9 a7 a8 a13 a18 a19 a20 a21 a22 a23 a25 r9n r9c).2.2.2.2.1) i1 (0 : Int32) (-1 : Int32) (F_x9_rowOf u1 (F_x6_firstCopy (F_x6_aim u1 i1 i3 i6 i9 a7 a8 a13 a18 a19 a20 a21 a22 a23 a25 r9n r9c).2.2.2.2.1) i3 r9n r9c).1 u2.toNatClampNeg (F_x9_rowOf u1 (F_x6_firstCopy (F_x6_aim u1 i1 i3 i6 i9 a7 a8 a13 a18 a19 a20 a21 a22 a23 a25 r9n r9c).2.2.2.2.1) i3 r9n r9c).2 (F_x7_fill u2 a1).1 (F_x7_fill u2 a1).2 z0 z0 (upd (upd z0 ((0 : Int32)).toNatClampNeg (-1 : Int32)) ((1 : Int32)).toNatClampNeg (-1 : Int32)) z0 z0 i10 i35 og ogn ogc).1, (0 : Int32), (F_x8_enter u0 u1 (F_x6_firstCopy (F_x6_aim u1 i1 i3 i6 i9 a7 a8 a13 a18 a19 a20 a21 a22 a23 a25 r9n r9c).2.2.2.2.1) i1 (0 : Int32) (-1 : Int32) (F_x9_rowOf u1 (F_x6_firstCopy (F_x6_aim u1 i1 i3 i6 i9 a7 a8 a13 a18 a19 a20 a21 a22 a23 a25 r9n r9c).2.2.2.2.1) i3 r9n r9c).1 u2.toNatClampNeg (F_x9_rowOf u1 (F_x6_firstCopy (F_x6_aim u1 i1 i3 i6 i9 a7 a8 a13 a18 a19 a20 a21 a22 a23 a25 r9n r9c).2.2.2.2.1) i3 r9n r9c).2 (F_x7_fill u2 a1).1 (F_x7_fill u2 a1).2 z0 z0 (upd (upd z0 ((0 : Int32)).toNatClampNeg (-1 : Int32)) ((1 : Int32)).toNatClampNeg (-1 : Int32)) z0 z0 i10 i35 og ogn ogc).2.1, (F_x6_aim u1 i1 i3 i6 i9 a7 a8 a13 a18 a19 a20 a21 a22 a23 a25 r9n r9c).1, (F_x6_aim u1 i1 i3 i6 i9 a7 a8 a13 a18 a19 a20 a21 a22 a23 a25 r9n r9c).2.1, (F_x6_aim u1 i1 i3 i6 i9 a7 a8 a13 a18 a19 a20 a21 a22 a23 a25 r9n r9c).2.2.1, (F_x6_aim u1 i1 i3 i6 i9 a7 a8 a13 a18 a19 a20 a21 a22 a23 a25 r9n r9c).2.2.2.1, (F_x6_aim u1 i1 i3 i6 i9 a7 a8 a13 a18 a19 a20 a21 a22 a23 a25 r9n r9c).2.2.2.2.1, (F_x6_aim u1 i1 i3 i6 i9 a7 a8 a13 a18 a19 a20 a21 a22 a23 a25 r9n r9c).2.2.2.2.2.1, (F_x6_aim u1 i1 i3 i6 i9 a7 a8 a13 a18 a19 a20 a21 a22 a23 a25 r9n r9c).2.2.2.2.2.2.1, (F_x6_aim u1 i1 i3 i6 i9 a7 a8 a13 a18 a19 a20 a21 a22 a23 a25 r9n r9c).2.2.2.2.2.2.2, (F_x8_enter u0 u1 (F_x6_firstCopy (F_x6_aim u1 i1 i3 i6 i9 a7 a8 a13 a18 a19 a20 a21 a22 a23 a25 r9n r9c).2.2.2.2.1) i1 (0 : Int32) (-1 : Int32) (F_x9_rowOf u1 (F_x6_firstCopy (F_x6_aim u1 i1 i3 i6 i9 a7 a8 a13 a18 a19 a20 a21 a22 a23 a25 r9n r9c).2.2.2.2.1) i3 r9n r9c).1 u2.toNatClampNeg (F_x9_rowOf u1 (F_x6_firstCopy (F_x6_aim u1 i1 i3 i6 i9 a7 a8 a13 a18 a19 a20 a21 a22 a23 a25 r9n r9c).2.2.2.2.1) i3 r9n r9c).2 (F_x7_fill u2 a1).1 (F_x7_fill u2 a1).2 z0 z0 (upd (upd z0 ((0 : Int32)).toNatClampNeg (-1 : Int32)) ((1 : Int32)).toNatClampNeg (-1 : Int32)) z0 z0 i10 i35 og ogn ogc).2.2.1, (F_x8_enter u0 u1 (F_x6_firstCopy (F_x6_aim u1 i1 i3 i6 i9 a7 a8 a13 a18 a19 a20 a21 a22 a23 a25 r9n r9c).2.2.2.2.1) i1 (0 : Int32) (-1 : Int32) (F_x9_rowOf u1 (F_x6_firstCopy (F_x6_aim u1 i1 i3 i6 i9 a7 a8 a13 a18 a19 a20 a21 a22 a23 a25 r9n r9c).2.2.2.2.1) i3 r9n r9c).1 u2.toNatClampNeg (F_x9_rowOf u1 (F_x6_firstCopy (F_x6_aim u1 i1 i3 i6 i9 a7 a8 a13 a18 a19 a20 a21 a22 a23 a25 r9n r9c).2.2.2.2.1) i3 r9n r9c).2 (F_x7_fill u2 a1).1 (F_x7_fill u2 a1).2 z0 z0 (upd (upd z0 ((0 : Int32)).toNatClampNeg (-1 : Int32)) ((1 : Int32)).toNatClampNeg (-1 : Int32)) z0 z0 i10 i35 og ogn ogc).2.2.2.1, (F_x8_enter u0 u1 (F_x6_firstCopy (F_x6_aim u1 i1 i3 i6 i9 a7 a8 a13 a18 a19 a20 a21 a22 a23 a25 r9n r9c).2.2.2.2.1) i1 (0 : Int32) (-1 : Int32) (F_x9_rowOf u1 (F_x6_firstCopy (F_x6_aim u1 i1 i3 i6 i9 a7 a8 a13 a18 a19 a20 a21 a22 a23 a25 r9n r9c).2.2.2.2.1) i3 r9n r9c).1 u2.toNatClampNeg (F_x9_rowOf u1 (F_x6_firstCopy (F_x6_aim u1 i1 i3 i6 i9 a7 a8 a13 a18 a19 a20 a21 a22 a23 a25 r9n r9c).2.2.2.2.1) i3 r9n r9c).2 (F_x7_fill u2 a1).1 (F_x7_fill u2 a1).2 z0 z0 (upd (upd z0 ((0 : Int32)).toNatClampNeg (-1 : Int32)) ((1 : Int32)).toNatClampNeg (-1 : Int32)) z0 z0 i10 i35 og ogn ogc).2.2.2.2.1, (F_x8_enter u0 u1 (F_x6_firstCopy (F_x6_aim u1 i1 i3 i6 i9 a7 a8 a13 a18 a19 a20 a21 a22 a23 a25 r9n r9c).2.2.2.2.1) i1 (0 : Int32) (-1 : Int32) (F_x9_rowOf u1 (F_x6_firstCopy (F_x6_aim u1 i1 i3 i6 i9 a7 a8 a13 a18 a19 a20 a21 a22 a23 a25 r9n r9c).2.2.2.2.1) i3 r9n r9c).1 u2.toNatClampNeg (F_x9_rowOf u1 (F_x6_firstCopy (F_x6_aim u1 i1 i3 i6 i9 a7 a8 a13 a18 a19 a20 a21 a22 a23 a25 r9n r9c).2.2.2.2.1) i3 r9n r9c).2 (F_x7_fill u2 a1).1 (F_x7_fill u2 a1).2 z0 z0 (upd (upd z0 ((0 : Int32)).toNatClampNeg (-1 : Int32)) ((1 : Int32)).toNatClampNeg (-1 : Int32)) z0 z0 i10 i35 og ogn ogc).2.2.2.2.2) else ((-1 : Int32), i0, i10, (F_x6_aim u1 i1 i3 i6 i9 a7 a8 a13 a18 a19 a20 a21 a22 a23 a25 r9n r9c).1, (F_x6_aim u1 i1 i3 i6 i9 a7 a8 a13 a18 a19 a20 a21 a22 a23 a25 r9n r9c).2.1, (F_x6_aim u1 i1 i3 i6 i9 a7 a8 a13 a18 a19 a20 a21 a22 a23 a25 r9n r9c).2.2.1, (F_x6_aim u1 i1 i3 i6 i9 a7 a8 a13 a18 a19 a20 a21 a22 a23 a25 r9n r9c).2.2.2.1, (F_x6_aim u1 i1 i3 i6 i9 a7 a8 a13 a18 a19 a20 a21 a22 a23 a25 r9n r9c).2.2.2.2.1, (F_x6_aim u1 i1 i3 i6 i9 a7 a8 a13 a18 a19 a20 a21 a22 a23 a25 r9n r9c).2.2.2.2.2.1, (F_x6_aim u1 i1 i3 i6 i9 a7 a8 a13 a18 a19 a20 a21 a22 a23 a25 r9n r9c).2.2.2.2.2.2.1, (F_x6_aim u1 i1 i3 i6 i9 a7 a8 a13 a18 a19 a20 a21 a22 a23 a25 r9n r9c).2.2.2.2.2.2.2, i35, og, ogn, ogc))) else ((-1 : Int32), i0, i10, i17, i18, i19, i20, i21, i22, i23, i24, i35, og, ogn, ogc)))) else ((-1 : Int32), i0, i10, i17, i18, i19, i20, i21, i22, i23, i24, i35, og, ogn, ogc)))) := rfl
theorem E_x8_enter {j0 : Int32} {j1 : Int32} {j2 : Int32} {j6 : Int32} {j7 : Int32} {j8 : Int32} {tkn : Nat} {slN : Nat} {tkf : Nat → Int32} {gw : Nat → Int32} {gu : Nat → Int32} {g9 : Nat → Int32} {g10 : Nat → Int32} {g11 : Nat → Int32} {g12 : Nat → Int32} {g13 : Nat → Int32} {i10 : Int32} {i35 : Int32} {og : Nat → Nat → Int32} {ogn : Nat → Nat → Nat} {ogc : Nat → Nat → Nat → Int32} : F_x8_enter j0 j1 j2 j6 j7 j8 tkn slN tkf gw gu g9 g10 g11 g12 g13 i10 i35 og ogn ogc = (((i10 + (1 : Int32)) - (1 : Int32)), (i10 + (1 : Int32)), (i35 + 1), (ogPut og i10.toNatClampNeg (ov j0 j1 j2 j6 j7 j8) (os g9 g10 g11 g12 g13)), (ognPut ogn i10.toNatClampNeg tkn slN), (ogcPut ogc i10.toNatClampNeg tkf gw gu)) := rfl
theorem E_m12_render {p0 : Int32} {p1 : Int32} {p2 : Int32} {i0 : Int32} {i1 : Int32} {i2 : Int32} {i3 : Int32} {i4 : Int32} {i5 : Int32} {i6 : Int32} {i7 : Int32} {a1 : Nat → Int32} {a2 : Nat → Int32} {a4 : Nat → Int32} {a5 : Nat → Int32} {a8 : Nat → Int32} {a12 : Nat → Int32} {a15 : Nat → Int32} {a16 : Nat → Int32} {a17 : Nat → Int32} {a18 : Nat → Int32} {a19 : Nat → Int32} {a20 : Nat → Int32} {a21 : Nat → Int32} {a33 : Nat → Int32} {a34 : Nat → Int32} {a36 : Nat → Int32} {a37 : Nat → Int32} {a38 : Nat → Int32} {a39 : Nat → Int32} {a40 : Nat → Int32} {a41 : Nat → Int32} {a42 : Nat → Int32} {a43 : Nat → Int32} {a46 : Nat → Int32} : F_m12_render p0 p1 p2 i0 i1 i2 i3 i4 i5 i6 i7 a1 a2 a4 a5 a8 a12 a15 a16 a17 a18 a19 a20 a21 a33 a34 a36 a37 a38 a39 a40 a41 a42 a43 a46 = if i7.toInt = 200 then ((-1 : Int32), i0, i7, a33, a34, a36, a37, a38, a39, a40, a41, a42, a43, a46) else (if (F_m12_lies p0 (0 : Int32) (i5 - (1 : Int32))).toInt = 0 then ((-1 : Int32), i0, i7, a33, a34, a36, a37, a38, a39, a40, a41, a42, a43, a46) else (if (a12 p0.toNatClampNeg).toInt ≠ 0 then ((-1 : Int32), i0, i7, a33, a34, a36, a37, a38, a39, a40, a41, a42, a43, a46) else (if (F_m12_isVerse p1 i2).toInt = 0 then ((-1 : Int32), i0, i7, a33, a34, a36, a37, a38, a39, a40, a41, a42, a43, a46) else (if (F_m12_lies p2 (1 : Int32) (12 : Int32)).toInt = 0 then ((-1 : Int32), i0, i7, a33, a34, a36, a37, a38, a39, a40, a41, a42, a43, a46) else (if ((2 : Int32) * p2).toInt ≤ i0.toInt then (if (F_m12_copyOf p1 i1 i4 i6 a2 a4 a8 a15 a16 a17 a18 a19 a20 a21).toInt ≠ (-1) then f_m12_render_j48 p0 p1 p2 i0 i1 i3 i7 a1 a4 a5 a33 a34 a36 a37 a38 a39 a40 a41 a42 a43 a46 (F_m12_copyOf p1 i1 i4 i6 a2 a4 a8 a15 a16 a17 a18 a19 a20 a21) (((3 : Int32) * p1) + (F_m12_copyOf p1 i1 i4 i6 a2 a4 a8 a15 a16 a17 a18 a19 a20 a21)) 13 (0 : Int32) else ((-1 : Int32), i0, i7, a33, a34, a36, a37, a38, a39, a40, a41, a42, a43, a46)) else ((-1 : Int32), i0, i7, a33, a34, a36, a37, a38, a39, a40, a41, a42, a43, a46)))))) := rfl
theorem S_m12_render_j48 {p0 : Int32} {p1 : Int32} {p2 : Int32} {i0 : Int32} {i1 : Int32} {i3 : Int32} {i7 : Int32} {a1 : Nat → Int32} {a4 : Nat → Int32} {a5 : Nat → Int32} {a33 : Nat → Int32} {a34 : Nat → Int32} {a36 : Nat → Int32} {a37 : Nat → Int32} {a38 : Nat → Int32} {a39 : Nat → Int32} {a40 : Nat → Int32} {a41 : Nat → Int32} {a42 : Nat → Int32} {a43 : Nat → Int32} {a46 : Nat → Int32} {v_39 : Int32} {z_47 : Int32} {n_ : Nat} {x_49} : f_m12_render_j48 p0 p1 p2 i0 i1 i3 i7 a1 a4 a5 a33 a34 a36 a37 a38 a39 a40 a41 a42 a43 a46 v_39 z_47 (n_ + 1) x_49 = if x_49.toInt ≥ p2.toInt then f_m12_render_j62 p2 i7 a1 a4 a5 a40 a41 a42 a43 a46 z_47 (upd a33 i7.toNatClampNeg p0) (upd a34 i7.toNatClampNeg p1) (upd a36 i7.toNatClampNeg i1) (upd a37 i7.toNatClampNeg v_39) (upd a38 i7.toNatClampNeg (a4 z_47.toNatClampNeg)) 9 (0 : Int32) a39 else (if (F_m12_isWord ((a1 ((2 : Int32) * x_49).toNatClampNeg) &&& (255 : Int32)) i3).toInt = 0 then ((-1 : Int32), i0, i7, a33, a34, a36, a37, a38, a39, a40, a41, a42, a43, a46) else (if ((a1 (((2 : Int32) * x_49) + (1 : Int32)).toNatClampNeg) &&& (255 : Int32)).toInt = 8 then (f_m12_render_j48 p0 p1 p2 i0 i1 i3 i7 a1 a4 a5 a33 a34 a36 a37 a38 a39 a40 a41 a42 a43 a46 v_39 z_47 n_) (x_49 + Int32.ofInt 1) else (if ((a1 (((2 : Int32) * x_49) + (1 : Int32)).toNatClampNeg) &&& (255 : Int32)).toInt < (a4 z_47.toNatClampNeg).toInt then (f_m12_render_j48 p0 p1 p2 i0 i1 i3 i7 a1 a4 a5 a33 a34 a36 a37 a38 a39 a40 a41 a42 a43 a46 v_39 z_47 n_) (x_49 + Int32.ofInt 1) else ((-1 : Int32), i0, i7, a33, a34, a36, a37, a38, a39, a40, a41, a42, a43, a46)))) := rfl
theorem S_m12_render_j62 {p2 : Int32} {i7 : Int32} {a1 : Nat → Int32} {a4 : Nat → Int32} {a5 : Nat → Int32} {a40 : Nat → Int32} {a41 : Nat → Int32} {a42 : Nat → Int32} {a43 : Nat → Int32} {a46 : Nat → Int32} {z_47 : Int32} {a33_56 : Nat → Int32} {a34_57 : Nat → Int32} {a36_58 : Nat → Int32} {a37_59 : Nat → Int32} {a38_61 : Nat → Int32} {n_ : Nat} {x_63} {a39_65} : f_m12_render_j62 p2 i7 a1 a4 a5 a40 a41 a42 a43 a46 z_47 a33_56 a34_57 a36_58 a37_59 a38_61 (n_ + 1) x_63 a39_65 = if x_63.toInt ≥ (a4 z_47.toNatClampNeg).toInt then f_m12_render_j70 p2 i7 a1 a43 a46 a33_56 a34_57 a36_58 a37_59 a38_61 a39_65 (upd a40 i7.toNatClampNeg p2) 13 (0 : Int32) a41 a42 else ((f_m12_render_j62 p2 i7 a1 a4 a5 a40 a41 a42 a43 a46 z_47 a33_56 a34_57 a36_58 a37_59 a38_61 n_) (x_63 + Int32.ofInt 1) (upd a39_65 (((8 : Int32) * i7) + x_63).toNatClampNeg (a5 (((8 : Int32) * z_47) + x_63).toNatClampNeg))) := rfl
theorem S_m12_render_j70 {p2 : Int32} {i7 : Int32} {a1 : Nat → Int32} {a43 : Nat → Int32} {a46 : Nat → Int32} {a33_56 : Nat → Int32} {a34_57 : Nat → Int32} {a36_58 : Nat → Int32} {a37_59 : Nat → Int32} {a38_61 : Nat → Int32} {a39_65 : Nat → Int32} {a40_69 : Nat → Int32} {n_ : Nat} {x_71} {a41_73} {a42_74} : f_m12_render_j70 p2 i7 a1 a43 a46 a33_56 a34_57 a36_58 a37_59 a38_61 a39_65 a40_69 (n_ + 1) x_71 a41_73 a42_74 = if x_71.toInt ≥ p2.toInt then (i7, (0 : Int32), (i7 + (1 : Int32)), a33_56, a34_57, a36_58, a37_59, a38_61, a39_65, a40_69, a41_73, a42_74, (upd a43 i7.toNatClampNeg (-1 : Int32)), (upd (upd a46 ((2 : Int32) * i7).toNatClampNeg (-1 : Int32)) (((2 : Int32) * i7) + (1 : Int32)).toNatClampNeg (-1 : Int32))) else ((f_m12_render_j70 p2 i7 a1 a43 a46 a33_56 a34_57 a36_58 a37_59 a38_61 a39_65 a40_69 n_) (x_71 + Int32.ofInt 1) (upd a41_73 (((12 : Int32) * i7) + x_71).toNatClampNeg ((a1 ((2 : Int32) * x_71).toNatClampNeg) &&& (255 : Int32))) (upd a42_74 (((12 : Int32) * i7) + x_71).toNatClampNeg ((a1 (((2 : Int32) * x_71) + (1 : Int32)).toNatClampNeg) &&& (255 : Int32)))) := rfl
theorem E_x7_fill {u1 : Int32} {a1 : Nat → Int32} : F_x7_fill u1 a1 = f_x7_fill_j10 u1 a1 13 (0 : Int32) z0 z0 := rfl
theorem S_x7_fill_j10 {u1 : Int32} {a1 : Nat → Int32} {n_ : Nat} {x_11} {g_13} {g_14} : f_x7_fill_j10 u1 a1 (n_ + 1) x_11 g_13 g_14 = if x_11.toInt ≥ u1.toInt then (g_13, g_14) else ((f_x7_fill_j10 u1 a1 n_) (x_11 + Int32.ofInt 1) (upd g_13 x_11.toNatClampNeg (a1 ((2 : Int32) * x_11).toNatClampNeg)) (upd g_14 x_11.toNatClampNeg (a1 (((2 : Int32) * x_11) + (1 : Int32)).toNatClampNeg))) := rfl
abbrev X15r := Int32 × Int32 × Int32 × Int32 × Int32 × Int32 × Int32 × Int32 × Int32 × Int32 × Int32 × Int32 × (Nat → Nat → Int32) × (Nat → Nat → Nat) × (Nat → Nat → Nat → Int32)
abbrev M14r := Int32 × Int32 × Int32 × (Nat → Int32) × (Nat → Int32) × (Nat → Int32) × (Nat → Int32) × (Nat → Int32) × (Nat → Int32) × (Nat → Int32) × (Nat → Int32) × (Nat → Int32) × (Nat → Int32) × (Nat → Int32)
theorem fill_loop {u2 : Int32} {a1 : Nat → Int32} {N : Nat} (hu : u2.toInt = (N : Int)) (h12 : N ≤ 12) : ∀ (m f X : Nat) (x : Int32) (g h : Nat → Int32), x.toInt = (X : Int) → N = X + m → m < f →
    (∀ i, X ≤ i → i < N → (f_x7_fill_j10 u2 a1 f x g h).1 i = a1 (2 * i) ∧ (f_x7_fill_j10 u2 a1 f x g h).2 i = a1 (2 * i + 1)) ∧ ∀ i, i < X → (f_x7_fill_j10 u2 a1 f x g h).1 i = g i ∧ (f_x7_fill_j10 u2 a1 f x g h).2 i = h i := by
  intro m
  induction m with
  | zero =>
    intro f X x g h hx hm hf
    obtain ⟨f, rfl⟩ : ∃ w, f = w + 1 := ⟨f - 1, by omega⟩
    rw [S_x7_fill_j10, if_pos (show x.toInt ≥ u2.toInt by omega)]
    exact ⟨fun i h1 h2 => absurd h2 (by omega), fun i _ => ⟨rfl, rfl⟩⟩
  | succ m ih =>
    intro f X x g h hx hm hf
    obtain ⟨f, rfl⟩ : ∃ w, f = w + 1 := ⟨f - 1, by omega⟩
    have hz : (x + Int32.ofInt 1).toInt = ((X + 1 : Nat) : Int) := by
      have := toInt_add hx co1 (by omega) (by omega)
      omega
    have k2 := (ix20 hx (by omega)).2
    have k3 := (ix2 hx c1 (by omega) (by omega) (i := 1)).2
    rw [S_x7_fill_j10, if_neg (show ¬ x.toInt ≥ u2.toInt by omega), k2, k3, nc hx]
    obtain ⟨q1, q2⟩ := ih f (X + 1) (x + Int32.ofInt 1) (upd g X (a1 (2 * X))) (upd h X (a1 (2 * X + 1))) hz (by omega) (by omega)
    refine ⟨fun i h1 h2 => ?_, fun i hi => ?_⟩
    · by_cases e : i = X
      · rw [e, (q2 X (by omega)).1, (q2 X (by omega)).2, upd_s, upd_s]
        exact ⟨rfl, rfl⟩
      · exact q1 i (by omega) h2
    · rw [(q2 i (by omega)).1, (q2 i (by omega)).2, upd_n (by omega), upd_n (by omega)]
      exact ⟨rfl, rfl⟩
theorem re_j70 {u2 i7 : Int32} {r N : Nat} {b1 b43 b46 c33 c34 c36 c37 c38 c39 c40 : Nat → Int32} (hu : u2.toInt = (N : Int)) (h12 : N ≤ 12) (hr : i7.toInt = (r : Int)) (hr2 : r < 200) : ∀ (m f X : Nat) (x : Int32) (A B : Nat → Int32), x.toInt = (X : Int) → N = X + m → m < f →
    ∃ A' B' : Nat → Int32, f_m12_render_j70 u2 i7 b1 b43 b46 c33 c34 c36 c37 c38 c39 c40 f x A B = (i7, (0 : Int32), (i7 + (1 : Int32)), c33, c34, c36, c37, c38, c39, c40, A', B', upd b43 i7.toNatClampNeg (-1 : Int32), upd (upd b46 ((2 : Int32) * i7).toNatClampNeg (-1 : Int32)) (((2 : Int32) * i7) + (1 : Int32)).toNatClampNeg (-1 : Int32)) ∧ (∀ j, j < 12 * r + X ∨ 12 * r + N ≤ j → A' j = A j ∧ B' j = B j) ∧ ∀ i, X ≤ i → i < N → A' (12 * r + i) = b1 (2 * i) &&& (255 : Int32) ∧ B' (12 * r + i) = b1 (2 * i + 1) &&& (255 : Int32) := by
  intro m
  induction m with
  | zero =>
    intro f X x A B hx hm hf
    obtain ⟨f, rfl⟩ : ∃ w, f = w + 1 := ⟨f - 1, by omega⟩
    rw [S_m12_render_j70, if_pos (show x.toInt ≥ u2.toInt by omega)]
    exact ⟨A, B, rfl, fun _ _ => ⟨rfl, rfl⟩, fun i h1 h2 => absurd h2 (by omega)⟩
  | succ m ih =>
    intro f X x A B hx hm hf
    obtain ⟨f, rfl⟩ : ∃ w, f = w + 1 := ⟨f - 1, by omega⟩
    have hz : (x + Int32.ofInt 1).toInt = ((X + 1 : Nat) : Int) := by
      have := toInt_add hx co1 (by omega) (by omega)
      omega
    have k2 := (ix20 hx (by omega)).2
    have k3 := (ix2 hx c1 (by omega) (by omega) (i := 1)).2
    have ek := ix12 hr hx hr2 (by omega)
    rw [S_m12_render_j70, if_neg (show ¬ x.toInt ≥ u2.toInt by omega), ek, k2, k3]
    obtain ⟨A', B', e, q1, q2⟩ := ih f (X + 1) (x + Int32.ofInt 1) (upd A (12 * r + X) (b1 (2 * X) &&& (255 : Int32))) (upd B (12 * r + X) (b1 (2 * X + 1) &&& (255 : Int32))) hz (by omega) (by omega)
    refine ⟨A', B', e, fun j hj => ?_, fun i h1 h2 => ?_⟩
    · rw [(q1 j (by omega)).1, (q1 j (by omega)).2, upd_n (by omega), upd_n (by omega)]
      exact ⟨rfl, rfl⟩
    · by_cases e1 : i = X
      · rw [e1, (q1 (12 * r + X) (by omega)).1, (q1 (12 * r + X) (by omega)).2, upd_s, upd_s]
        exact ⟨rfl, rfl⟩
      · exact q2 i (by omega) h2
theorem re_j62 {u2 i7 z : Int32} {r N T Z : Nat} {b1 b4 b5 b40 b41 b42 b43 b46 c33 c34 c36 c37 c38 : Nat → Int32} (hu : u2.toInt = (N : Int)) (h12 : N ≤ 12) (hr : i7.toInt = (r : Int)) (hr2 : r < 200) (hz : z.toInt = (Z : Int)) (hZ : Z < 180) (hT : (b4 Z).toInt = (T : Int)) (hT8 : T ≤ 8) : ∀ (m f X : Nat) (x : Int32) (A : Nat → Int32), x.toInt = (X : Int) → T = X + m → m < f →
    ∃ A' B' C' : Nat → Int32, f_m12_render_j62 u2 i7 b1 b4 b5 b40 b41 b42 b43 b46 z c33 c34 c36 c37 c38 f x A = (i7, (0 : Int32), (i7 + (1 : Int32)), c33, c34, c36, c37, c38, A', upd b40 i7.toNatClampNeg u2, B', C', upd b43 i7.toNatClampNeg (-1 : Int32), upd (upd b46 ((2 : Int32) * i7).toNatClampNeg (-1 : Int32)) (((2 : Int32) * i7) + (1 : Int32)).toNatClampNeg (-1 : Int32)) ∧ (∀ j, j < 8 * r + X ∨ 8 * r + T ≤ j → A' j = A j) ∧ (∀ i, X ≤ i → i < T → A' (8 * r + i) = b5 (8 * Z + i)) ∧ (∀ j, j < 12 * r ∨ 12 * r + N ≤ j → B' j = b41 j ∧ C' j = b42 j) ∧ ∀ i, i < N → B' (12 * r + i) = b1 (2 * i) &&& (255 : Int32) ∧ C' (12 * r + i) = b1 (2 * i + 1) &&& (255 : Int32) := by
  intro m
  induction m with
  | zero =>
    intro f X x A hx hm hf
    obtain ⟨f, rfl⟩ : ∃ w, f = w + 1 := ⟨f - 1, by omega⟩
    obtain ⟨B', C', e, q1, q2⟩ := re_j70 (b1 := b1) (b43 := b43) (b46 := b46) (c33 := c33) (c34 := c34) (c36 := c36) (c37 := c37) (c38 := c38) (c39 := A) (c40 := upd b40 i7.toNatClampNeg u2) hu h12 hr hr2 N 13 0 (0 : Int32) b41 b42 c0 (by omega) (by omega)
    rw [S_m12_render_j62, nc hz, if_pos (show x.toInt ≥ (b4 Z).toInt by omega)]
    exact ⟨A, B', C', e, fun _ _ => rfl, fun i h1 h2 => absurd h2 (by omega), fun j hj => q1 j (by omega), fun i hi => q2 i (Nat.zero_le i) hi⟩
  | succ m ih =>
    intro f X x A hx hm hf
    obtain ⟨f, rfl⟩ : ∃ w, f = w + 1 := ⟨f - 1, by omega⟩
    have hz1 : (x + Int32.ofInt 1).toInt = ((X + 1 : Nat) : Int) := by
      have := toInt_add hx co1 (by omega) (by omega)
      omega
    have ek := ix8 hr hx hr2 (by omega)
    have ez := ix8 hz hx (by omega) (by omega)
    rw [S_m12_render_j62, nc hz, if_neg (show ¬ x.toInt ≥ (b4 Z).toInt by omega), ek, ez]
    obtain ⟨A', B', C', e, q1, q2, q3⟩ := ih f (X + 1) (x + Int32.ofInt 1) (upd A (8 * r + X) (b5 (8 * Z + X))) hz1 (by omega) (by omega)
    refine ⟨A', B', C', e, fun j hj => ?_, fun i h1 h2 => ?_, q3⟩
    · rw [q1 j (by omega), upd_n (by omega)]
    · by_cases e1 : i = X
      · rw [e1, q1 (8 * r + X) (by omega), upd_s]
      · exact q2 i (by omega) h2
/-- a SLOT as the tape has it -/
def SLO (i2 : Int32) (a1 : Nat → Int32) (i : Nat) : Prop := (0 ≤ (a1 (2 * i)).toInt ∧ (a1 (2 * i)).toInt < i2.toInt) ∧ (0 ≤ (a1 (2 * i + 1)).toInt ∧ (a1 (2 * i + 1)).toInt ≤ 8)
theorem slot_loop {u0 u1 u2 c sz i0 i1 i2 i10 z : Int32} {a1 b1 b4 b5 b33 b34 b36 b37 b38 b39 b40 b41 b42 b43 b46 : Nat → Int32} (hT : TPR a1 b1) (hw : 0 ≤ i2.toInt) (hz : b4 z.toNatClampNeg = sz) (hs8 : sz.toInt ≤ 8) (hu12 : u2.toInt ≤ 12) : ∀ (m f g : Nat) (x : Int32) (k : Nat), x.toInt = (k : Int) → u2.toInt = (k : Int) + m → m < f → m < g →
    (f_x11_tapeHasSlots_j1 u2 sz i2 a1 f x = 1 ∧ f_m12_render_j48 u0 u1 u2 i0 i1 i2 i10 b1 b4 b5 b33 b34 b36 b37 b38 b39 b40 b41 b42 b43 b46 c z g x = f_m12_render_j62 u2 i10 b1 b4 b5 b40 b41 b42 b43 b46 z (upd b33 i10.toNatClampNeg u0) (upd b34 i10.toNatClampNeg u1) (upd b36 i10.toNatClampNeg i1) (upd b37 i10.toNatClampNeg c) (upd b38 i10.toNatClampNeg sz) 9 (0 : Int32) b39 ∧ ∀ i : Nat, k ≤ i → (i : Int) < u2.toInt → SLO i2 a1 i) ∨ (f_x11_tapeHasSlots_j1 u2 sz i2 a1 f x = 0 ∧ f_m12_render_j48 u0 u1 u2 i0 i1 i2 i10 b1 b4 b5 b33 b34 b36 b37 b38 b39 b40 b41 b42 b43 b46 c z g x = ((-1 : Int32), i0, i10, b33, b34, b36, b37, b38, b39, b40, b41, b42, b43, b46)) := by
  intro m
  induction m with
  | zero =>
    intro f g x k hx hu hf hg
    obtain ⟨f, rfl⟩ : ∃ w, f = w + 1 := ⟨f - 1, by omega⟩
    obtain ⟨g, rfl⟩ : ∃ w, g = w + 1 := ⟨g - 1, by omega⟩
    rw [S_x11_tapeHasSlots_j1, S_m12_render_j48, if_pos (show x.toInt ≥ u2.toInt by omega), if_pos (show x.toInt ≥ u2.toInt by omega), hz]
    exact Or.inl ⟨rfl, rfl, fun i h1 h2 => absurd h2 (by omega)⟩
  | succ m ih =>
    intro f g x k hx hu hf hg
    obtain ⟨f, rfl⟩ : ∃ w, f = w + 1 := ⟨f - 1, by omega⟩
    obtain ⟨g, rfl⟩ : ∃ w, g = w + 1 := ⟨g - 1, by omega⟩
    have hx1 : (x + Int32.ofInt 1).toInt = ((k + 1 : Nat) : Int) := by
      have := toInt_add hx co1 (by omega) (by omega)
      omega
    have IH := ih f g (x + Int32.ofInt 1) (k + 1) hx1 (by omega) (by omega) (by omega)
    clear hx1
    have k2 := (ix20 hx (by omega)).2
    have k3 := (ix2 hx c1 (by omega) (by omega) (i := 1)).2
    have t1 := (hT (2 * k)).1
    have t2 := (hT (2 * k + 1)).1
    rw [S_x11_tapeHasSlots_j1, S_m12_render_j48, if_neg (show ¬ x.toInt ≥ u2.toInt by omega), if_neg (show ¬ x.toInt ≥ u2.toInt by omega), k2, k3, TPR_and hT, TPR_and hT, hz]
    -- one more slot
    have more : (a1 (2 * k)).toInt < i2.toInt → (a1 (2 * k + 1)).toInt ≤ 8 → (f_x11_tapeHasSlots_j1 u2 sz i2 a1 f (x + Int32.ofInt 1) = 1 ∧ f_m12_render_j48 u0 u1 u2 i0 i1 i2 i10 b1 b4 b5 b33 b34 b36 b37 b38 b39 b40 b41 b42 b43 b46 c z g (x + Int32.ofInt 1) = f_m12_render_j62 u2 i10 b1 b4 b5 b40 b41 b42 b43 b46 z (upd b33 i10.toNatClampNeg u0) (upd b34 i10.toNatClampNeg u1) (upd b36 i10.toNatClampNeg i1) (upd b37 i10.toNatClampNeg c) (upd b38 i10.toNatClampNeg sz) 9 (0 : Int32) b39 ∧ ∀ i : Nat, k ≤ i → (i : Int) < u2.toInt → SLO i2 a1 i) ∨ (f_x11_tapeHasSlots_j1 u2 sz i2 a1 f (x + Int32.ofInt 1) = 0 ∧ f_m12_render_j48 u0 u1 u2 i0 i1 i2 i10 b1 b4 b5 b33 b34 b36 b37 b38 b39 b40 b41 b42 b43 b46 c z g (x + Int32.ofInt 1) = ((-1 : Int32), i0, i10, b33, b34, b36, b37, b38, b39, b40, b41, b42, b43, b46)) := by
      intro s1 s2
      rcases IH with ⟨p1, p2, p3⟩ | p
      · refine Or.inl ⟨p1, p2, fun i h1 h2 => ?_⟩
        by_cases e : i = k
        · rw [e]; exact ⟨⟨t1.1, s1⟩, ⟨t2.1, s2⟩⟩
        · exact p3 i (by omega) h2
      · exact Or.inr p
    rcases xhasW (u := a1 (2 * k)) (i3 := i2) with ⟨h1, h⟩ | ⟨h1, h⟩
    · rcases mword (u := a1 (2 * k)) (i2 := i2) hw with ⟨_, g'⟩ | ⟨g1, _⟩
      · rw [h, g', if_neg n10, if_neg n10]
        by_cases w : (a1 (2 * k + 1)).toInt = 8
        · rw [if_pos w, if_pos w]; exact more h1.2 (by omega)
        · rw [if_neg w, if_neg w]
          by_cases w2 : (a1 (2 * k + 1)).toInt < sz.toInt
          · rw [if_pos w2, if_pos w2]; exact more h1.2 (by omega)
          · rw [if_neg w2, if_neg w2]; exact Or.inr ⟨rfl, rfl⟩
      · exact absurd h1 g1
    · rcases mword (u := a1 (2 * k)) (i2 := i2) hw with ⟨g1, _⟩ | ⟨_, g'⟩
      · exact absurd g1 h1
      · rw [h, g', if_pos y00, if_pos y00]; exact Or.inr ⟨rfl, rfl⟩
def GRD (u0 u1 u2 i0 i3 i5 i10 : Int32) (b12 : Nat → Int32) : Prop := (0 ≤ u0.toInt ∧ u0.toInt < i5.toInt) ∧ (b12 u0.toNatClampNeg).toInt = 0 ∧ (0 ≤ u1.toInt ∧ u1.toInt < i3.toInt) ∧ i10.toInt < 200 ∧ (1 ≤ u2.toInt ∧ u2.toInt ≤ 12) ∧ ((2 : Int32) * u2).toInt ≤ i0.toInt
/-- a new RENDERING stands, on both sides -/
def NEWR (r : Nat) (i3 : Int32) (og : Nat → Nat → Int32) (ogn : Nat → Nat → Nat) (ogc : Nat → Nat → Nat → Int32) (b33 b34 b36 b37 b38 b39 b40 b41 b42 b43 b46 : Nat → Int32) (og' : Nat → Nat → Int32) (ogn' : Nat → Nat → Nat) (ogc' : Nat → Nat → Nat → Int32) (c33 c34 c36 c37 c38 c39 c40 c41 c42 c43 c46 : Nat → Int32) : Prop :=
  ∃ (u0 u1 c i1 u2 sz : Int32) (tn N : Nat) (tf gw gu : Nat → Int32), (og' = ogPut og r (ov u0 u1 c i1 (0 : Int32) (-1 : Int32)) (os z0 z0 (upd (upd z0 ((0 : Int32)).toNatClampNeg (-1 : Int32)) ((1 : Int32)).toNatClampNeg (-1 : Int32)) z0 z0) ∧ ogn' = ognPut ogn r tn N ∧ ogc' = ogcPut ogc r tf gw gu) ∧
    (c33 = upd b33 r u0 ∧ c34 = upd b34 r u1 ∧ c36 = upd b36 r i1 ∧ c37 = upd b37 r c ∧ c38 = upd b38 r sz ∧ c40 = upd b40 r u2 ∧ c43 = upd b43 r (-1 : Int32) ∧ c46 = upd (upd b46 (2 * r) (-1 : Int32)) (2 * r + 1) (-1 : Int32)) ∧
    (0 ≤ u1.toInt ∧ u1.toInt < i3.toInt) ∧ (sz.toInt = (tn : Int) ∧ tn ≤ 8) ∧ (u2.toInt = (N : Int) ∧ 1 ≤ N ∧ N ≤ 12) ∧ (∀ j, j < 8 * r ∨ 8 * r + tn ≤ j → c39 j = b39 j) ∧ (∀ i, i < tn → c39 (8 * r + i) = tf i) ∧ (∀ j, j < 12 * r ∨ 12 * r + N ≤ j → c41 j = b41 j ∧ c42 j = b42 j) ∧
    ∀ i, i < N → (c41 (12 * r + i) = gw i ∧ c42 (12 * r + i) = gu i) ∧ (0 ≤ (gw i).toInt ∧ (gw i).toInt ≤ 79) ∧ (0 ≤ (gu i).toInt ∧ (gu i).toInt ≤ 8)
def RRE (i0 i3 i10 : Int32) (og : Nat → Nat → Int32) (ogn : Nat → Nat → Nat) (ogc : Nat → Nat → Nat → Int32) (b33 b34 b36 b37 b38 b39 b40 b41 b42 b43 b46 : Nat → Int32) (x : X15r) (m : M14r) : Prop :=
  x.1 = m.1 ∧ x.2.1 = m.2.1 ∧ x.2.2.1 = m.2.2.1 ∧ (0 ≤ x.2.1.toInt ∧ x.2.1.toInt ≤ 200) ∧ (0 ≤ x.2.2.1.toInt ∧ x.2.2.1.toInt ≤ 200) ∧
  ((x.2.2.1 = i10 ∧ (x.2.2.2.2.2.2.2.2.2.2.2.2.1 = og ∧ x.2.2.2.2.2.2.2.2.2.2.2.2.2.1 = ogn ∧ x.2.2.2.2.2.2.2.2.2.2.2.2.2.2 = ogc) ∧ m.2.2.2 = (b33, b34, b36, b37, b38, b39, b40, b41, b42, b43, b46)) ∨ (i10.toInt < 200 ∧ x.2.2.1.toInt = i10.toInt + 1 ∧ NEWR i10.toInt.toNat i3 og ogn ogc b33 b34 b36 b37 b38 b39 b40 b41 b42 b43 b46 x.2.2.2.2.2.2.2.2.2.2.2.2.1 x.2.2.2.2.2.2.2.2.2.2.2.2.2.1 x.2.2.2.2.2.2.2.2.2.2.2.2.2.2 m.2.2.2.1 m.2.2.2.2.1 m.2.2.2.2.2.1 m.2.2.2.2.2.2.1 m.2.2.2.2.2.2.2.1 m.2.2.2.2.2.2.2.2.1 m.2.2.2.2.2.2.2.2.2.1 m.2.2.2.2.2.2.2.2.2.2.1 m.2.2.2.2.2.2.2.2.2.2.2.1 m.2.2.2.2.2.2.2.2.2.2.2.2.1 m.2.2.2.2.2.2.2.2.2.2.2.2.2))
section REN
variable {u0 u1 u2 i0 i1 i2 i3 i5 i6 i8 i9 i10 i17 i18 i19 i20 i21 i22 i23 i24 i35 : Int32} {a1 a7 a8 a13 a18 a19 a20 a21 a22 a23 a24 a25 b1 b2 b4 b5 b8 b12 b15 b16 b17 b18 b19 b20 b21 b22 b33 b34 b36 b37 b38 b39 b40 b41 b42 b43 b46 : Nat → Int32} {r9n : Nat → Nat} {r9c : Nat → Nat → Int32} {og : Nat → Nat → Int32} {ogn : Nat → Nat → Nat} {ogc : Nat → Nat → Nat → Int32}
theorem mre : (GRD u0 u1 u2 i0 i3 i5 i10 b12 ∧ F_m12_render u0 u1 u2 i0 i1 i3 i2 i6 i5 i9 i10 b1 b2 b4 b5 b8 b12 b15 b16 b17 b18 b19 b20 b21 b33 b34 b36 b37 b38 b39 b40 b41 b42 b43 b46 = if (F_m12_copyOf u1 i1 i6 i9 b2 b4 b8 b15 b16 b17 b18 b19 b20 b21).toInt ≠ (-1) then f_m12_render_j48 u0 u1 u2 i0 i1 i2 i10 b1 b4 b5 b33 b34 b36 b37 b38 b39 b40 b41 b42 b43 b46 (F_m12_copyOf u1 i1 i6 i9 b2 b4 b8 b15 b16 b17 b18 b19 b20 b21) (((3 : Int32) * u1) + (F_m12_copyOf u1 i1 i6 i9 b2 b4 b8 b15 b16 b17 b18 b19 b20 b21)) 13 (0 : Int32) else ((-1 : Int32), i0, i10, b33, b34, b36, b37, b38, b39, b40, b41, b42, b43, b46)) ∨
    (¬ GRD u0 u1 u2 i0 i3 i5 i10 b12 ∧ F_m12_render u0 u1 u2 i0 i1 i3 i2 i6 i5 i9 i10 b1 b2 b4 b5 b8 b12 b15 b16 b17 b18 b19 b20 b21 b33 b34 b36 b37 b38 b39 b40 b41 b42 b43 b46 = ((-1 : Int32), i0, i10, b33, b34, b36, b37, b38, b39, b40, b41, b42, b43, b46)) ∨ i5.toInt < 0 ∨ 24 < i5.toInt ∨ i3.toInt < 0 ∨ 200 < i10.toInt := by
  by_cases n5 : i5.toInt < 0
  · exact Or.inr (Or.inr (Or.inl n5))
  by_cases n6 : 24 < i5.toInt
  · exact Or.inr (Or.inr (Or.inr (Or.inl n6)))
  by_cases n7 : i3.toInt < 0
  · exact Or.inr (Or.inr (Or.inr (Or.inr (Or.inl n7))))
  by_cases n8 : 200 < i10.toInt
  · exact Or.inr (Or.inr (Or.inr (Or.inr (Or.inr n8))))
  have e1 : (i5 - 1).toInt = i5.toInt - 1 := by have := toInt_sub (x := i5) rfl c1 (by omega) (by omega); omega
  have c12' : (12 : Int32).toInt = 12 := by decide
  rw [E_m12_render]
  unfold GRD
  by_cases w : i10.toInt = 200
  · rw [if_pos w]; exact Or.inr (Or.inl ⟨fun z => by have := z.2.2.2.1; omega, rfl⟩)
  · rw [if_neg w]
    rcases mlie (u := u0) c0 e1 with ⟨g1, g⟩ | ⟨g1, g⟩
    · rw [g, if_neg n10]
      by_cases v : (b12 u0.toNatClampNeg).toInt ≠ 0
      · rw [if_pos v]; exact Or.inr (Or.inl ⟨fun z => v z.2.1, rfl⟩)
      · rw [if_neg v]
        rcases mver (u := u1) (i2 := i3) (by omega) with ⟨k1, k⟩ | ⟨k1, k⟩
        · rw [k, if_neg n10]
          rcases mlie (u := u2) c1 c12' with ⟨l1, l⟩ | ⟨l1, l⟩
          · rw [l, if_neg n10]
            by_cases w3 : ((2 : Int32) * u2).toInt ≤ i0.toInt
            · rw [if_pos w3]
              exact Or.inl ⟨⟨by omega, by omega, k1, by omega, l1, w3⟩, rfl⟩
            · rw [if_neg w3]; exact Or.inr (Or.inl ⟨fun z => w3 z.2.2.2.2.2, rfl⟩)
          · rw [l, if_pos y00]; exact Or.inr (Or.inl ⟨fun z => l1 z.2.2.2.2.1, rfl⟩)
        · rw [k, if_pos y00]; exact Or.inr (Or.inl ⟨fun z => k1 z.2.2.1, rfl⟩)
    · rw [g, if_pos y00]; exact Or.inr (Or.inl ⟨fun z => g1 (by have := z.1; omega), rfl⟩)
/-- the class's answer where the call is allowed -/
def XRC (u0 u1 u2 i0 i1 i2 i3 i10 i35 : Int32) (a1 : Nat → Int32) (r9n : Nat → Nat) (r9c : Nat → Nat → Int32) (og : Nat → Nat → Int32) (ogn : Nat → Nat → Nat) (ogc : Nat → Nat → Nat → Int32) (t : Int32 × Int32 × Int32 × Int32 × Int32 × Int32 × Int32 × Int32) : X15r :=
  if (Int32.ofNat (F_x9_rowOf u1 (F_x6_firstCopy t.2.2.2.2.1) i3 r9n r9c).1).toInt = 0 then ((-1 : Int32), i0, i10, t.1, t.2.1, t.2.2.1, t.2.2.2.1, t.2.2.2.2.1, t.2.2.2.2.2.1, t.2.2.2.2.2.2.1, t.2.2.2.2.2.2.2, i35, og, ogn, ogc)
  else (if (F_x11_tapeHasSlots u2 (Int32.ofNat (F_x9_rowOf u1 (F_x6_firstCopy t.2.2.2.2.1) i3 r9n r9c).1) i2 a1).toInt ≠ 0 then ((F_x8_enter u0 u1 (F_x6_firstCopy t.2.2.2.2.1) i1 (0 : Int32) (-1 : Int32) (F_x9_rowOf u1 (F_x6_firstCopy t.2.2.2.2.1) i3 r9n r9c).1 u2.toNatClampNeg (F_x9_rowOf u1 (F_x6_firstCopy t.2.2.2.2.1) i3 r9n r9c).2 (F_x7_fill u2 a1).1 (F_x7_fill u2 a1).2 z0 z0 (upd (upd z0 ((0 : Int32)).toNatClampNeg (-1 : Int32)) ((1 : Int32)).toNatClampNeg (-1 : Int32)) z0 z0 i10 i35 og ogn ogc).1, (0 : Int32), (F_x8_enter u0 u1 (F_x6_firstCopy t.2.2.2.2.1) i1 (0 : Int32) (-1 : Int32) (F_x9_rowOf u1 (F_x6_firstCopy t.2.2.2.2.1) i3 r9n r9c).1 u2.toNatClampNeg (F_x9_rowOf u1 (F_x6_firstCopy t.2.2.2.2.1) i3 r9n r9c).2 (F_x7_fill u2 a1).1 (F_x7_fill u2 a1).2 z0 z0 (upd (upd z0 ((0 : Int32)).toNatClampNeg (-1 : Int32)) ((1 : Int32)).toNatClampNeg (-1 : Int32)) z0 z0 i10 i35 og ogn ogc).2.1, t.1, t.2.1, t.2.2.1, t.2.2.2.1, t.2.2.2.2.1, t.2.2.2.2.2.1, t.2.2.2.2.2.2.1, t.2.2.2.2.2.2.2, (F_x8_enter u0 u1 (F_x6_firstCopy t.2.2.2.2.1) i1 (0 : Int32) (-1 : Int32) (F_x9_rowOf u1 (F_x6_firstCopy t.2.2.2.2.1) i3 r9n r9c).1 u2.toNatClampNeg (F_x9_rowOf u1 (F_x6_firstCopy t.2.2.2.2.1) i3 r9n r9c).2 (F_x7_fill u2 a1).1 (F_x7_fill u2 a1).2 z0 z0 (upd (upd z0 ((0 : Int32)).toNatClampNeg (-1 : Int32)) ((1 : Int32)).toNatClampNeg (-1 : Int32)) z0 z0 i10 i35 og ogn ogc).2.2.1, (F_x8_enter u0 u1 (F_x6_firstCopy t.2.2.2.2.1) i1 (0 : Int32) (-1 : Int32) (F_x9_rowOf u1 (F_x6_firstCopy t.2.2.2.2.1) i3 r9n r9c).1 u2.toNatClampNeg (F_x9_rowOf u1 (F_x6_firstCopy t.2.2.2.2.1) i3 r9n r9c).2 (F_x7_fill u2 a1).1 (F_x7_fill u2 a1).2 z0 z0 (upd (upd z0 ((0 : Int32)).toNatClampNeg (-1 : Int32)) ((1 : Int32)).toNatClampNeg (-1 : Int32)) z0 z0 i10 i35 og ogn ogc).2.2.2.1, (F_x8_enter u0 u1 (F_x6_firstCopy t.2.2.2.2.1) i1 (0 : Int32) (-1 : Int32) (F_x9_rowOf u1 (F_x6_firstCopy t.2.2.2.2.1) i3 r9n r9c).1 u2.toNatClampNeg (F_x9_rowOf u1 (F_x6_firstCopy t.2.2.2.2.1) i3 r9n r9c).2 (F_x7_fill u2 a1).1 (F_x7_fill u2 a1).2 z0 z0 (upd (upd z0 ((0 : Int32)).toNatClampNeg (-1 : Int32)) ((1 : Int32)).toNatClampNeg (-1 : Int32)) z0 z0 i10 i35 og ogn ogc).2.2.2.2.1, (F_x8_enter u0 u1 (F_x6_firstCopy t.2.2.2.2.1) i1 (0 : Int32) (-1 : Int32) (F_x9_rowOf u1 (F_x6_firstCopy t.2.2.2.2.1) i3 r9n r9c).1 u2.toNatClampNeg (F_x9_rowOf u1 (F_x6_firstCopy t.2.2.2.2.1) i3 r9n r9c).2 (F_x7_fill u2 a1).1 (F_x7_fill u2 a1).2 z0 z0 (upd (upd z0 ((0 : Int32)).toNatClampNeg (-1 : Int32)) ((1 : Int32)).toNatClampNeg (-1 : Int32)) z0 z0 i10 i35 og ogn ogc).2.2.2.2.2) else ((-1 : Int32), i0, i10, t.1, t.2.1, t.2.2.1, t.2.2.2.1, t.2.2.2.2.1, t.2.2.2.2.2.1, t.2.2.2.2.2.2.1, t.2.2.2.2.2.2.2, i35, og, ogn, ogc))
theorem xre (hD : VDS i8 b12) (h5 : 0 ≤ i5.toInt ∧ i5.toInt ≤ 24) : (GRD u0 u1 u2 i0 i3 i5 i10 b12 ∧ F_x11_render u0 u1 u2 i0 i1 i2 i3 i6 i5 i8 i9 i10 i17 i18 i19 i20 i21 i22 i23 i24 i35 a1 a7 a8 a13 a18 a19 a20 a21 a22 a23 a25 r9n r9c og ogn ogc = XRC u0 u1 u2 i0 i1 i2 i3 i10 i35 a1 r9n r9c og ogn ogc (F_x6_aim u1 i1 i3 i6 i9 a7 a8 a13 a18 a19 a20 a21 a22 a23 a25 r9n r9c)) ∨
    (¬ GRD u0 u1 u2 i0 i3 i5 i10 b12 ∧ F_x11_render u0 u1 u2 i0 i1 i2 i3 i6 i5 i8 i9 i10 i17 i18 i19 i20 i21 i22 i23 i24 i35 a1 a7 a8 a13 a18 a19 a20 a21 a22 a23 a25 r9n r9c og ogn ogc = ((-1 : Int32), i0, i10, i17, i18, i19, i20, i21, i22, i23, i24, i35, og, ogn, ogc)) := by
  have fl : F_x8_isFull i10 = if i10.toInt < 200 then (0 : Int32) else (1 : Int32) := rfl
  rw [E_x11_render]
  unfold GRD
  rcases xsch (u := u0) (i7 := i5) with ⟨h1, h⟩ | ⟨h1, h⟩
  · rw [h, if_neg n10]
    rcases vd_at hD (u := u0) (by omega) with ⟨v1, v⟩ | ⟨v1, v⟩
    · rw [v, if_neg n00]
      rcases xhas (u := u1) (i3 := i3) with ⟨k1, k⟩ | ⟨k1, k⟩
      · rw [k, if_neg n10, fl]
        by_cases w : i10.toInt < 200
        · rw [if_pos w, if_pos y00]
          by_cases w1 : u2.toInt < 1
          · rw [if_pos w1]; exact Or.inr ⟨fun z => by have := z.2.2.2.2.1; omega, rfl⟩
          · rw [if_neg w1]
            by_cases w2 : u2.toInt > 12
            · rw [if_pos w2]; exact Or.inr ⟨fun z => by have := z.2.2.2.2.1; omega, rfl⟩
            · rw [if_neg w2]
              by_cases w3 : ((2 : Int32) * u2).toInt ≤ i0.toInt
              · rw [if_pos w3]
                exact Or.inl ⟨⟨h1, v1, k1, w, by omega, w3⟩, rfl⟩
              · rw [if_neg w3]; exact Or.inr ⟨fun z => w3 z.2.2.2.2.2, rfl⟩
        · rw [if_neg w, if_neg n10]; exact Or.inr ⟨fun z => w z.2.2.2.1, rfl⟩
      · rw [k, if_pos y00]; exact Or.inr ⟨fun z => k1 z.2.2.1, rfl⟩
    · rw [v, if_pos y10]; exact Or.inr ⟨fun z => v1 z.2.1, rfl⟩
  · rw [h, if_pos y00]; exact Or.inr ⟨fun z => h1 z.1, rfl⟩
theorem row_none {u : Int32} {c : Int32} (hc : c.toInt = -1) : Int32.ofNat (F_x9_rowOf u c i3 r9n r9c).1 = 0 := by
  rw [E_x9_rowOf]
  rcases xhas (u := u) (i3 := i3) with ⟨_, h⟩ | ⟨_, h⟩
  · rw [h, if_neg n10]
    rcases xcop (u := c) with ⟨k1, _⟩ | ⟨_, k⟩
    · omega
    · rw [k, if_neg n00]; rfl
  · rw [h, if_pos y00]; rfl
theorem XRC_no {w : X15r} (hi : 0 ≤ i0.toInt ∧ i0.toInt ≤ 200) (h10 : 0 ≤ i10.toInt ∧ i10.toInt ≤ 200) (h1 : w.1 = (-1 : Int32)) (h2 : w.2.1 = i0) (h3 : w.2.2.1 = i10) (h4 : w.2.2.2.2.2.2.2.2.2.2.2.2.1 = og ∧ w.2.2.2.2.2.2.2.2.2.2.2.2.2.1 = ogn ∧ w.2.2.2.2.2.2.2.2.2.2.2.2.2.2 = ogc) : RRE i0 i3 i10 og ogn ogc b33 b34 b36 b37 b38 b39 b40 b41 b42 b43 b46 w ((-1 : Int32), i0, i10, b33, b34, b36, b37, b38, b39, b40, b41, b42, b43, b46) :=
  ⟨h1, h2, h3, by rw [h2]; exact hi, by rw [h3]; exact h10, Or.inl ⟨h3, h4, rfl⟩⟩
theorem XRC_of {t : Int32 × Int32 × Int32 × Int32 × Int32 × Int32 × Int32 × Int32} {r : Int32} {w : Nat} (hi : 0 ≤ i0.toInt ∧ i0.toInt ≤ 200) (h10 : 0 ≤ i10.toInt ∧ i10.toInt < 200) (h2 : 0 ≤ i2.toInt ∧ i2.toInt ≤ 80) (hu : 1 ≤ u2.toInt ∧ u2.toInt ≤ 12) (hv : u1.toInt = (w : Int)) (hv2 : (w : Int) < i3.toInt) (hi3 : i3.toInt ≤ 60) (hT : TPR a1 b1) (hR : RWS r9n r9c b4 b5)
    (hc : CPY b4 w (t.2.2.2.2.1, t.2.2.2.2.2.1) r) :
    RRE i0 i3 i10 og ogn ogc b33 b34 b36 b37 b38 b39 b40 b41 b42 b43 b46 (XRC u0 u1 u2 i0 i1 i2 i3 i10 i35 a1 r9n r9c og ogn ogc t) (if r.toInt ≠ (-1) then f_m12_render_j48 u0 u1 u2 i0 i1 i2 i10 b1 b4 b5 b33 b34 b36 b37 b38 b39 b40 b41 b42 b43 b46 r (((3 : Int32) * u1) + r) 13 (0 : Int32) else ((-1 : Int32), i0, i10, b33, b34, b36, b37, b38, b39, b40, b41, b42, b43, b46)) := by
  obtain ⟨ht, hc⟩ := hc
  have ht : t.2.2.2.2.1 = r := ht
  have e0 := c0
  unfold XRC
  rw [ht, show F_x6_firstCopy r = r from rfl]
  have go : ∀ c : Nat, c ≤ 2 → r.toInt = (c : Int) → 0 < (b4 (3 * w + c)).toInt → RRE i0 i3 i10 og ogn ogc b33 b34 b36 b37 b38 b39 b40 b41 b42 b43 b46 (if (Int32.ofNat (F_x9_rowOf u1 r i3 r9n r9c).1).toInt = 0 then ((-1 : Int32), i0, i10, t.1, t.2.1, t.2.2.1, t.2.2.2.1, r, t.2.2.2.2.2.1, t.2.2.2.2.2.2.1, t.2.2.2.2.2.2.2, i35, og, ogn, ogc)
      else (if (F_x11_tapeHasSlots u2 (Int32.ofNat (F_x9_rowOf u1 r i3 r9n r9c).1) i2 a1).toInt ≠ 0 then ((F_x8_enter u0 u1 r i1 (0 : Int32) (-1 : Int32) (F_x9_rowOf u1 r i3 r9n r9c).1 u2.toNatClampNeg (F_x9_rowOf u1 r i3 r9n r9c).2 (F_x7_fill u2 a1).1 (F_x7_fill u2 a1).2 z0 z0 (upd (upd z0 ((0 : Int32)).toNatClampNeg (-1 : Int32)) ((1 : Int32)).toNatClampNeg (-1 : Int32)) z0 z0 i10 i35 og ogn ogc).1, (0 : Int32), (F_x8_enter u0 u1 r i1 (0 : Int32) (-1 : Int32) (F_x9_rowOf u1 r i3 r9n r9c).1 u2.toNatClampNeg (F_x9_rowOf u1 r i3 r9n r9c).2 (F_x7_fill u2 a1).1 (F_x7_fill u2 a1).2 z0 z0 (upd (upd z0 ((0 : Int32)).toNatClampNeg (-1 : Int32)) ((1 : Int32)).toNatClampNeg (-1 : Int32)) z0 z0 i10 i35 og ogn ogc).2.1, t.1, t.2.1, t.2.2.1, t.2.2.2.1, r, t.2.2.2.2.2.1, t.2.2.2.2.2.2.1, t.2.2.2.2.2.2.2, (F_x8_enter u0 u1 r i1 (0 : Int32) (-1 : Int32) (F_x9_rowOf u1 r i3 r9n r9c).1 u2.toNatClampNeg (F_x9_rowOf u1 r i3 r9n r9c).2 (F_x7_fill u2 a1).1 (F_x7_fill u2 a1).2 z0 z0 (upd (upd z0 ((0 : Int32)).toNatClampNeg (-1 : Int32)) ((1 : Int32)).toNatClampNeg (-1 : Int32)) z0 z0 i10 i35 og ogn ogc).2.2.1, (F_x8_enter u0 u1 r i1 (0 : Int32) (-1 : Int32) (F_x9_rowOf u1 r i3 r9n r9c).1 u2.toNatClampNeg (F_x9_rowOf u1 r i3 r9n r9c).2 (F_x7_fill u2 a1).1 (F_x7_fill u2 a1).2 z0 z0 (upd (upd z0 ((0 : Int32)).toNatClampNeg (-1 : Int32)) ((1 : Int32)).toNatClampNeg (-1 : Int32)) z0 z0 i10 i35 og ogn ogc).2.2.2.1, (F_x8_enter u0 u1 r i1 (0 : Int32) (-1 : Int32) (F_x9_rowOf u1 r i3 r9n r9c).1 u2.toNatClampNeg (F_x9_rowOf u1 r i3 r9n r9c).2 (F_x7_fill u2 a1).1 (F_x7_fill u2 a1).2 z0 z0 (upd (upd z0 ((0 : Int32)).toNatClampNeg (-1 : Int32)) ((1 : Int32)).toNatClampNeg (-1 : Int32)) z0 z0 i10 i35 og ogn ogc).2.2.2.2.1, (F_x8_enter u0 u1 r i1 (0 : Int32) (-1 : Int32) (F_x9_rowOf u1 r i3 r9n r9c).1 u2.toNatClampNeg (F_x9_rowOf u1 r i3 r9n r9c).2 (F_x7_fill u2 a1).1 (F_x7_fill u2 a1).2 z0 z0 (upd (upd z0 ((0 : Int32)).toNatClampNeg (-1 : Int32)) ((1 : Int32)).toNatClampNeg (-1 : Int32)) z0 z0 i10 i35 og ogn ogc).2.2.2.2.2) else ((-1 : Int32), i0, i10, t.1, t.2.1, t.2.2.1, t.2.2.2.1, r, t.2.2.2.2.2.1, t.2.2.2.2.2.2.1, t.2.2.2.2.2.2.2, i35, og, ogn, ogc)))
      (if r.toInt ≠ (-1) then f_m12_render_j48 u0 u1 u2 i0 i1 i2 i10 b1 b4 b5 b33 b34 b36 b37 b38 b39 b40 b41 b42 b43 b46 r (((3 : Int32) * u1) + r) 13 (0 : Int32) else ((-1 : Int32), i0, i10, b33, b34, b36, b37, b38, b39, b40, b41, b42, b43, b46)) := by
    intro c hc2 hr hp
    have z := row_sz hR hv hr hv2 hi3 hc2
    obtain ⟨o1, o2⟩ := row_of hR hv hr hv2 hi3 hc2
    obtain ⟨x1, x2⟩ := idx3 hv hr (by omega) hc2
    have g8 := (hR (3 * w + c) (by omega)).1
    obtain ⟨I, hI⟩ : ∃ I : Nat, i10.toInt = (I : Int) := ⟨i10.toInt.toNat, by omega⟩
    obtain ⟨N, hN⟩ : ∃ N : Nat, u2.toInt = (N : Int) := ⟨u2.toInt.toNat, by omega⟩
    rw [z, if_neg (show ¬ (b4 (3 * w + c)).toInt = 0 by omega), if_pos (show r.toInt ≠ -1 by omega)]
    generalize (F_x9_rowOf u1 r i3 r9n r9c) = Q at o1 o2 ⊢
    have ef : F_x11_tapeHasSlots u2 (b4 (3 * w + c)) i2 a1 = f_x11_tapeHasSlots_j1 u2 (b4 (3 * w + c)) i2 a1 13 0 := rfl
    rw [ef]
    have S := slot_loop (u0 := u0) (u1 := u1) (u2 := u2) (c := r) (sz := b4 (3 * w + c)) (i0 := i0) (i1 := i1) (i2 := i2) (i10 := i10) (z := (3 : Int32) * u1 + r) (b4 := b4) (b5 := b5) (b33 := b33) (b34 := b34) (b36 := b36) (b37 := b37) (b38 := b38) (b39 := b39) (b40 := b40) (b41 := b41) (b42 := b42) (b43 := b43) (b46 := b46) hT h2.1 (by rw [nc x2]) g8.2 hu.2 u2.toInt.toNat 13 13 0 0 c0 (by omega) (by omega) (by omega)
    rcases S with ⟨s1, s2, s3⟩ | ⟨s1, s2⟩
    · obtain ⟨A', B', C', q0, q1, q2, q3, q4⟩ := re_j62 (b1 := b1) (b5 := b5) (b40 := b40) (b41 := b41) (b42 := b42) (b43 := b43) (b46 := b46) (c33 := upd b33 i10.toNatClampNeg u0) (c34 := upd b34 i10.toNatClampNeg u1) (c36 := upd b36 i10.toNatClampNeg i1) (c37 := upd b37 i10.toNatClampNeg r) (c38 := upd b38 i10.toNatClampNeg (b4 (3 * w + c))) hN (by omega) hI (by omega) x2 (by omega) o1.symm (by omega) Q.1 9 0 (0 : Int32) b39 c0 (by omega) (by omega)
      rw [s1, s2, if_pos y10, q0]
      obtain ⟨f1, -⟩ := fill_loop (a1 := a1) hN (by omega) N 13 0 (0 : Int32) z0 z0 c0 (by omega) (by omega)
      have ej := toInt_add (x := i10) rfl c1 (by omega) (by omega)
      have ek := toInt_sub ej c1 (by omega) (by omega)
      have k0 := (ix20 hI (by omega)).2
      have k1 := (ix2 hI c1 (by omega) (by omega) (i := 1)).2
      rw [E_x8_enter, nc hI, nc hN, k0, k1]
      have eI : i10.toInt.toNat = I := by omega
      refine ⟨eq_of_toInt (by show (i10 + 1 - 1).toInt = i10.toInt; omega), rfl, rfl, ⟨by show 0 ≤ (0 : Int32).toInt; omega, by show (0 : Int32).toInt ≤ 200; omega⟩, ⟨by show 0 ≤ (i10 + 1).toInt; omega, by show (i10 + 1).toInt ≤ 200; omega⟩, Or.inr ⟨h10.2, ej, ?_⟩⟩
      rw [eI]
      refine ⟨u0, u1, r, i1, u2, b4 (3 * w + c), Q.1, N, Q.2, (F_x7_fill u2 a1).1, (F_x7_fill u2 a1).2, ⟨rfl, rfl, rfl⟩, ⟨rfl, rfl, rfl, rfl, rfl, rfl, rfl, rfl⟩, ⟨by omega, by omega⟩, ⟨o1.symm, by omega⟩, ⟨hN, by omega, by omega⟩, fun j hj => q1 j (by omega), fun i hi => ?_, q3, fun i hi => ?_⟩
      · exact (q2 i (Nat.zero_le i) hi).trans (o2 i (by omega)).symm
      · obtain ⟨t1, t2⟩ := q4 i hi
        rw [TPR_and hT] at t1 t2
        obtain ⟨v1, v2⟩ := f1 i (Nat.zero_le i) hi
        obtain ⟨l1, l2⟩ := s3 i (Nat.zero_le i) (by omega)
        rw [E_x7_fill, v1, v2]
        exact ⟨⟨t1, t2⟩, ⟨l1.1, by omega⟩, l2⟩
    · rw [s1, s2, if_neg n00]
      exact XRC_no hi ⟨h10.1, by omega⟩ rfl rfl rfl ⟨rfl, rfl, rfl⟩
  rcases hc with ⟨p1, p2⟩ | ⟨p1, _, p3⟩ | ⟨p1, _, p3⟩ | ⟨p1, _, p3⟩
  · rw [row_none p1, if_pos y00, if_neg (fun z => z p1)]
    exact XRC_no hi ⟨h10.1, by omega⟩ rfl rfl rfl ⟨rfl, rfl, rfl⟩
  · exact go 0 (by omega) p1 p3
  · exact go 1 (by omega) p1 p3
  · exact go 2 (by omega) p1 p3
theorem R_render (hi : 0 ≤ i0.toInt ∧ i0.toInt ≤ 200) (h10 : 0 ≤ i10.toInt ∧ i10.toInt ≤ 200) (h2 : 0 ≤ i2.toInt ∧ i2.toInt ≤ 80) (h3 : 0 ≤ i3.toInt ∧ i3.toInt ≤ 60) (h5 : 0 ≤ i5.toInt ∧ i5.toInt ≤ 24) (h6 : 0 ≤ i6.toInt ∧ i6.toInt ≤ 6) (h9 : 0 ≤ i9.toInt ∧ i9.toInt ≤ 20)
    (hT : TPR a1 b1) (hV : VRS i3 a7 b2) (hP : PPL i6 a13 b8) (hD : VDS i8 b12) (hL : LAW i9 a18 a19 a20 a21 a22 a23 a24 a25 b15 b16 b17 b18 b19 b20 b21 b22) (hK : KI i9 b18 b19 b20 b21 b22) (hR : RWS r9n r9c b4 b5) :
    RRE i0 i3 i10 og ogn ogc b33 b34 b36 b37 b38 b39 b40 b41 b42 b43 b46 (F_x11_render u0 u1 u2 i0 i1 i2 i3 i6 i5 i8 i9 i10 i17 i18 i19 i20 i21 i22 i23 i24 i35 a1 a7 a8 a13 a18 a19 a20 a21 a22 a23 a25 r9n r9c og ogn ogc) (F_m12_render u0 u1 u2 i0 i1 i3 i2 i6 i5 i9 i10 b1 b2 b4 b5 b8 b12 b15 b16 b17 b18 b19 b20 b21 b33 b34 b36 b37 b38 b39 b40 b41 b42 b43 b46) := by
  rcases xre (u0 := u0) (u1 := u1) (u2 := u2) (i0 := i0) (i1 := i1) (i2 := i2) (i3 := i3) (i6 := i6) (i9 := i9) (i10 := i10) (i17 := i17) (i18 := i18) (i19 := i19) (i20 := i20) (i21 := i21) (i22 := i22) (i23 := i23) (i24 := i24) (i35 := i35) (a1 := a1) (a7 := a7) (a8 := a8) (a13 := a13) (a18 := a18) (a19 := a19) (a20 := a20) (a21 := a21) (a22 := a22) (a23 := a23) (a25 := a25) (r9n := r9n) (r9c := r9c) (og := og) (ogn := ogn) (ogc := ogc) hD h5 with ⟨x1, x2⟩ | ⟨x1, x2⟩
  · rcases mre (u0 := u0) (u1 := u1) (u2 := u2) (i0 := i0) (i1 := i1) (i2 := i2) (i3 := i3) (i5 := i5) (i6 := i6) (i9 := i9) (i10 := i10) (b1 := b1) (b2 := b2) (b4 := b4) (b5 := b5) (b8 := b8) (b12 := b12) (b15 := b15) (b16 := b16) (b17 := b17) (b18 := b18) (b19 := b19) (b20 := b20) (b21 := b21) (b33 := b33) (b34 := b34) (b36 := b36) (b37 := b37) (b38 := b38) (b39 := b39) (b40 := b40) (b41 := b41) (b42 := b42) (b43 := b43) (b46 := b46) with ⟨_, m2⟩ | ⟨m1, _⟩ | m1 | m1 | m1 | m1
    · rw [x2, m2]
      obtain ⟨_, _, k1, k2, k3, _⟩ := x1
      obtain ⟨w, hw⟩ : ∃ w : Nat, u1.toInt = (w : Int) := ⟨u1.toInt.toNat, by omega⟩
      obtain ⟨v1, v2, v3⟩ := hV w (by omega)
      rcases xhas (u := u1) (i3 := i3) with ⟨_, h⟩ | ⟨g1, _⟩
      · have eb : F_x9_bookOf u1 i3 a7 = b2 u1.toNatClampNeg := by
          rw [E_x9_bookOf, h, if_neg n10, nc hw, v1]
        have ec : F_x4_companyOf (F_x9_bookOf u1 i3 a7) i6 a13 = F_m12_companyOf u1 i6 b2 b8 := by
          rw [eb]
          exact com_of hP (by rw [nc hw]; exact ⟨v2, v3⟩) h6
        obtain ⟨z20, q1, q2⟩ := aim_loop (v := u1) (day := i1) (i3 := i3) (i6 := i6) (v1 := F_x9_bookOf u1 i3 a7) (v5 := F_x9_measureOf u1 i3 a8) (b2 := b2) (b8 := b8) (r9n := r9n) (r9c := r9c) h9 hL i9.toInt.toNat 21 0 0 0 c0 (by omega) (by omega) (fun y y1 y2 => by omega) (fun j _ => qI_0 j)
        have ea : (F_x6_aim u1 i1 i3 i6 i9 a7 a8 a13 a18 a19 a20 a21 a22 a23 a25 r9n r9c) = (u1, i1, F_m12_companyOf u1 i6 b2 b8, z20, (F_x6_findCopy i3 i9 u1 z20 a21 a22 a23 a25 r9n r9c).1, (F_x6_findCopy i3 i9 u1 z20 a21 a22 a23 a25 r9n r9c).2, F_x9_bookOf u1 i3 a7, F_x9_measureOf u1 i3 a8) := by
          rw [E_x6_aim, ec]
          exact q1
        have CP := copy_of (day := i1) (i6 := i6) (b2 := b2) (b8 := b8) hw (by omega) h3.2 h9 q2 hL hK hR
        rw [ea]
        exact XRC_of hi ⟨h10.1, k2⟩ h2 k3 hw (by omega) h3.2 hT hR CP
      · exact absurd k1 g1
    · exact absurd x1 m1
    all_goals omega
  · rcases mre (u0 := u0) (u1 := u1) (u2 := u2) (i0 := i0) (i1 := i1) (i2 := i2) (i3 := i3) (i5 := i5) (i6 := i6) (i9 := i9) (i10 := i10) (b1 := b1) (b2 := b2) (b4 := b4) (b5 := b5) (b8 := b8) (b12 := b12) (b15 := b15) (b16 := b16) (b17 := b17) (b18 := b18) (b19 := b19) (b20 := b20) (b21 := b21) (b33 := b33) (b34 := b34) (b36 := b36) (b37 := b37) (b38 := b38) (b39 := b39) (b40 := b40) (b41 := b41) (b42 := b42) (b43 := b43) (b46 := b46) with ⟨m1, _⟩ | ⟨_, m2⟩ | m1 | m1 | m1 | m1
    · exact absurd m1 x1
    · rw [x2, m2]
      exact XRC_no hi h10 rfl rfl rfl ⟨rfl, rfl, rfl⟩
    all_goals omega
end REN
