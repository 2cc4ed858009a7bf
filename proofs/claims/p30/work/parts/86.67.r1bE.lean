/-! both sides after any calls: the pieces of group 1, as group 2 moves them -/
def R1 (i0 : Int32) (i1 : Int32) (i2 : Int32) (i3 : Int32) (i6 : Int32) (i7 : Int32) (i8 : Int32) (i9 : Int32) (i10 : Int32) (a1 : Nat → Int32) (a4 : Nat → Int32) (a5 : Nat → Int32) (a7 : Nat → Int32) (a8 : Nat → Int32) (a13 : Nat → Int32) (a18 : Nat → Int32) (a19 : Nat → Int32) (a20 : Nat → Int32) (a21 : Nat → Int32) (a22 : Nat → Int32) (a23 : Nat → Int32) (a24 : Nat → Int32) (a25 : Nat → Int32) (a26 : Nat → Int32) (r9n : Nat → Nat) (r9c : Nat → Nat → Int32) (rtn : Nat → Nat) (rtc : Nat → Nat → Int32) (j0 : Int32) (j1 : Int32) (j2 : Int32) (j3 : Int32) (j4 : Int32) (j5 : Int32) (j6 : Int32) (j7 : Int32) (b1 : Nat → Int32) (b2 : Nat → Int32) (b3 : Nat → Int32) (b4 : Nat → Int32) (b5 : Nat → Int32) (b8 : Nat → Int32) (b12 : Nat → Int32) (b13 : Nat → Int32) (b14 : Nat → Int32) (b15 : Nat → Int32) (b16 : Nat → Int32) (b17 : Nat → Int32) (b18 : Nat → Int32) (b19 : Nat → Int32) (b20 : Nat → Int32) (b21 : Nat → Int32) (b22 : Nat → Int32) (b23 : Nat → Int32) (b24 : Nat → Int32) (b25 : Nat → Int32) (b26 : Nat → Int32) : Prop :=
  (i0 = j0 ∧ i1 = j1 ∧ i2 = j3 ∧ i3 = j2 ∧ i6 = j4 ∧ i7 = j5 ∧ i9 = j6 ∧ i10 = j7) ∧ ((0 ≤ i0.toInt ∧ i0.toInt ≤ 200) ∧ (0 ≤ i1.toInt ∧ i1.toInt ≤ 3999) ∧ (0 ≤ i2.toInt ∧ i2.toInt ≤ 80) ∧ (0 ≤ i3.toInt ∧ i3.toInt ≤ 60) ∧ (0 ≤ i6.toInt ∧ i6.toInt ≤ 6) ∧ (0 ≤ i7.toInt ∧ i7.toInt ≤ 24) ∧ (0 ≤ i9.toInt ∧ i9.toInt ≤ 20) ∧ (0 ≤ i10.toInt ∧ i10.toInt ≤ 200)) ∧
  TPR a1 b1 ∧ WDS i2 a4 a5 b13 b14 ∧ VRS i3 a7 b2 ∧ RWS r9n r9c b4 b5 ∧ PPL i6 a13 b8 ∧ VDS i8 b12 ∧ LAW i9 a18 a19 a20 a21 a22 a23 a24 a25 b15 b16 b17 b18 b19 b20 b21 b22 ∧ MES i3 a8 b3 ∧ RCC i9 a21 a26 rtn rtc b23 b24 b25 b26
theorem R1_0 : R1 0 0 0 0 0 0 0 0 0 (fun _ => 0) (fun _ => 0) (fun _ => 0) (fun _ => 0) (fun _ => 0) (fun _ => 0) (fun _ => 0) (fun _ => 0) (fun _ => 0) (fun _ => 0) (fun _ => 0) (fun _ => 0) (fun _ => 0) (fun _ => 0) (fun _ => 0) (fun _ => 0) (fun _ _ => 0) (fun _ => 0) (fun _ _ => 0) 0 0 0 0 0 0 0 0 (fun _ => 0) (fun _ => 0) (fun _ => 0) (fun _ => 0) (fun _ => 0) (fun _ => 0) (fun _ => 0) (fun _ => 0) (fun _ => 0) (fun _ => 0) (fun _ => 0) (fun _ => 0) (fun _ => 0) (fun _ => 0) (fun _ => 0) (fun _ => 0) (fun _ => 0) (fun _ => 0) (fun _ => 0) (fun _ => 0) (fun _ => 0) := by
  have z := c0
  have t : (0 ≤ (0 : Int32).toInt ∧ (0 : Int32).toInt ≤ 255) ∧ (0 : Int32).toInt = (if (0 : Int32).toInt < 128 then (0 : Int32).toInt else (0 : Int32).toInt - 256) := by decide
  have t2 : (0 ≤ (0 : Int32).toInt ∧ (0 : Int32).toInt ≤ 8) ∧ ((0 : Nat) : Int) = (if (0 : Int32).toInt = 0 then 0 else (0 : Int32).toInt + 1) := by decide
  refine ⟨⟨rfl, rfl, rfl, rfl, rfl, rfl, rfl, rfl⟩, ⟨by decide, by decide, by decide, by decide, by decide, by decide, by decide, by decide⟩, fun k => t, fun w hw => ?_, fun w hw => ?_, fun x _ => ?_, fun w hw => ?_, fun s _ => ?_, fun w hw => ?_, fun w hw => ?_, fun w hw => ?_⟩
  · omega
  · omega
  · refine ⟨t2.1, t2.2, fun i hi => ?_⟩
    have hi : (i : Int) < (0 : Int32).toInt := hi
    omega
  · omega
  · rw [qI_0]
    exact ⟨fun q => (by cases q), fun q => absurd c0 q⟩
  · omega
  · omega
  · omega
def R2 (i3 : Int32) (i4 : Int32) (i6 : Int32) (i7 : Int32) (i10 : Int32) (i11 : Int32) (j18 : Int32) (a15 : Nat → Int32) (a29 : Nat → Int32) (a30 : Nat → Int32) (a31 : Nat → Int32) (a32 : Nat → Int32) (b2 : Nat → Int32) (b8 : Nat → Int32) (b10 : Nat → Int32) (b11 : Nat → Int32) (b12 : Nat → Int32) (b33 : Nat → Int32) (b34 : Nat → Int32) (b35 : Nat → Int32) (b36 : Nat → Int32) (b37 : Nat → Int32) (b38 : Nat → Int32) (b39 : Nat → Int32) (b40 : Nat → Int32) (b41 : Nat → Int32) (b42 : Nat → Int32) (b43 : Nat → Int32) (b44 : Nat → Int32) (b45 : Nat → Int32) (b46 : Nat → Int32) (b47 : Nat → Int32) (b48 : Nat → Int32) (b49 : Nat → Int32) (b50 : Nat → Int32) (b51 : Nat → Int32) (b52 : Nat → Int32) (b53 : Nat → Int32) (og : Nat → Nat → Int32) (ogn : Nat → Nat → Nat) (ogc : Nat → Nat → Nat → Int32) : Prop :=
  MEM i4 i6 i7 a15 b10 b11 ∧ RNC i10 og ogn ogc b33 b34 b36 b37 b38 b39 b40 b41 b42 ∧ RNS i3 i10 og b34 b35 b43 ∧ KEP i10 og b44 b45 b46 ∧ VOT i10 og b49 b50 ∧ CST i6 i7 i10 b2 b8 b10 b11 b34 b49 ∧ STD i10 b12 b35 b46 b47 b48 b49 b50 ∧ FXD i10 a29 b34 b35 ∧ TEL i10 i11 j18 a30 a31 a32 b51 b52 b53 ∧ TLV i3 i11 a30
theorem R2_0 : R2 0 0 0 0 0 0 0 (fun _ => 0) (fun _ => -1) (fun _ => 0) (fun _ => 0) (fun _ => 0) (fun _ => 0) (fun _ => 0) (fun _ => 0) (fun _ => 0) (fun _ => 0) (fun _ => 0) (fun _ => 0) (fun _ => 0) (fun _ => 0) (fun _ => 0) (fun _ => 0) (fun _ => 0) (fun _ => 0) (fun _ => 0) (fun _ => 0) (fun _ => 0) (fun _ => 0) (fun _ => 0) (fun _ => 0) (fun _ => 0) (fun _ => 0) (fun _ => 0) (fun _ => 0) (fun _ => 0) (fun _ => 0) (fun _ => 0) (fun _ _ => 0) (fun _ _ => 0) (fun _ _ _ => 0) := by
  have z := c0
  have no : ∀ s : Nat, ¬ (s : Int) < (0 : Int32).toInt := fun s h => by omega
  refine ⟨⟨fun s => ?_, fun c s _ => ?_, fun s h => absurd h (no s)⟩, fun q h => absurd h (no q), ⟨fun q h => absurd h (no q), fun q _ _ => z⟩, fun k h => ?_, ⟨fun k h => ?_, fun k _ _ => ⟨rfl, rfl⟩⟩, fun q s h => absurd h (no q), fun q h => absurd h (no q), fun v _ => Or.inl ⟨sm1, fun q h => absurd h (no q)⟩, ⟨rfl, by decide, fun t h => absurd h (no t)⟩, fun t h => absurd h (no t)⟩
  · rw [qI_0]
    exact ⟨fun q => (by cases q), fun q => absurd q.2.1 (no s)⟩
  · rw [qI_0]
    exact ⟨fun q => (by cases q), fun q => absurd q.2.1 (no s)⟩
  · exact absurd h (by omega)
  · exact absurd h (by omega)
theorem R1_now {i0 i1 i2 i3 i6 i7 i8 i9 i10 j0 j1 j2 j3 j4 j5 j6 j7 u0 v1 ni1 v2 nj1 : Int32} {a1 a4 a5 a7 a8 a13 a18 a19 a20 a21 a22 a23 a24 a25 a26 b1 b2 b3 b4 b5 b8 b12 b13 b14 b15 b16 b17 b18 b19 b20 b21 b22 b23 b24 b25 b26 : Nat → Int32} {r9n rtn : Nat → Nat} {r9c rtc : Nat → Nat → Int32} (h : R1 i0 i1 i2 i3 i6 i7 i8 i9 i10 a1 a4 a5 a7 a8 a13 a18 a19 a20 a21 a22 a23 a24 a25 a26 r9n r9c rtn rtc j0 j1 j2 j3 j4 j5 j6 j7 b1 b2 b3 b4 b5 b8 b12 b13 b14 b15 b16 b17 b18 b19 b20 b21 b22 b23 b24 b25 b26) (e0 : v1 = (F_x11_now u0 i1).1) (e1 : ni1 = (F_x11_now u0 i1).2) (f0 : v2 = (F_m12_now u0 j1).1) (f1 : nj1 = (F_m12_now u0 j1).2) : v1.toInt = v2.toInt ∧ R1 i0 ni1 i2 i3 i6 i7 i8 i9 i10 a1 a4 a5 a7 a8 a13 a18 a19 a20 a21 a22 a23 a24 a25 a26 r9n r9c rtn rtc j0 nj1 j2 j3 j4 j5 j6 j7 b1 b2 b3 b4 b5 b8 b12 b13 b14 b15 b16 b17 b18 b19 b20 b21 b22 b23 b24 b25 b26 := by
  obtain ⟨⟨q0, q1, q2, q3, q6, q7, q9, q10⟩, ⟨g0, g1, g2, g3, g6, g7, g9, g10⟩, T, W, V, R, P, D, L, M, C⟩ := h
  subst q0 q1 q2 q3 q6 q7 q9 q10
  have r := R_now (u0 := u0) g1
  subst e0 e1 f0 f1
  exact ⟨by rw [r.1], ⟨rfl, by rw [r.1], rfl, rfl, rfl, rfl, rfl, rfl⟩, ⟨g0, r.2, g2, g3, g6, g7, g9, g10⟩, T, W, V, R, P, D, L, M, C⟩
theorem R1_feed {i0 i1 i2 i3 i6 i7 i8 i9 i10 j0 j1 j2 j3 j4 j5 j6 j7 u0 u1 u2 u3 u4 v1 ni0 v2 nj0 : Int32} {a1 a4 a5 a7 a8 a13 a18 a19 a20 a21 a22 a23 a24 a25 a26 b1 b2 b3 b4 b5 b8 b12 b13 b14 b15 b16 b17 b18 b19 b20 b21 b22 b23 b24 b25 b26 na1 nb1 : Nat → Int32} {r9n rtn : Nat → Nat} {r9c rtc : Nat → Nat → Int32} (h : R1 i0 i1 i2 i3 i6 i7 i8 i9 i10 a1 a4 a5 a7 a8 a13 a18 a19 a20 a21 a22 a23 a24 a25 a26 r9n r9c rtn rtc j0 j1 j2 j3 j4 j5 j6 j7 b1 b2 b3 b4 b5 b8 b12 b13 b14 b15 b16 b17 b18 b19 b20 b21 b22 b23 b24 b25 b26) (e0 : v1 = (F_x11_feed u0 u1 u2 u3 u4 i0 a1).1) (e1 : ni0 = (F_x11_feed u0 u1 u2 u3 u4 i0 a1).2.1) (e2 : na1 = (F_x11_feed u0 u1 u2 u3 u4 i0 a1).2.2) (f0 : v2 = (F_m12_feed u0 u1 u2 u3 u4 j0 b1).1) (f1 : nj0 = (F_m12_feed u0 u1 u2 u3 u4 j0 b1).2.1) (f2 : nb1 = (F_m12_feed u0 u1 u2 u3 u4 j0 b1).2.2) : v1.toInt = v2.toInt ∧ R1 ni0 i1 i2 i3 i6 i7 i8 i9 i10 na1 a4 a5 a7 a8 a13 a18 a19 a20 a21 a22 a23 a24 a25 a26 r9n r9c rtn rtc nj0 j1 j2 j3 j4 j5 j6 j7 nb1 b2 b3 b4 b5 b8 b12 b13 b14 b15 b16 b17 b18 b19 b20 b21 b22 b23 b24 b25 b26 := by
  obtain ⟨⟨q0, q1, q2, q3, q6, q7, q9, q10⟩, ⟨g0, g1, g2, g3, g6, g7, g9, g10⟩, T, W, V, R, P, D, L, M, C⟩ := h
  subst q0 q1 q2 q3 q6 q7 q9 q10
  have r := R_feed (u0 := u0) (u1 := u1) (u2 := u2) (u3 := u3) (u4 := u4) g0.1 g0.2 T
  subst e0 e1 e2 f0 f1 f2
  exact ⟨by rw [r.1], ⟨r.2.1, rfl, rfl, rfl, rfl, rfl, rfl, rfl⟩, ⟨r.2.2.2, g1, g2, g3, g6, g7, g9, g10⟩, r.2.2.1, W, V, R, P, D, L, M, C⟩
theorem R1_verse {i0 i1 i2 i3 i6 i7 i8 i9 i10 j0 j1 j2 j3 j4 j5 j6 j7 u0 u1 v1 ni3 v2 nj2 : Int32} {a1 a4 a5 a7 a8 a13 a18 a19 a20 a21 a22 a23 a24 a25 a26 b1 b2 b3 b4 b5 b8 b12 b13 b14 b15 b16 b17 b18 b19 b20 b21 b22 b23 b24 b25 b26 na7 na8 nb2 nb3 : Nat → Int32} {r9n rtn : Nat → Nat} {r9c rtc : Nat → Nat → Int32} (h : R1 i0 i1 i2 i3 i6 i7 i8 i9 i10 a1 a4 a5 a7 a8 a13 a18 a19 a20 a21 a22 a23 a24 a25 a26 r9n r9c rtn rtc j0 j1 j2 j3 j4 j5 j6 j7 b1 b2 b3 b4 b5 b8 b12 b13 b14 b15 b16 b17 b18 b19 b20 b21 b22 b23 b24 b25 b26) (e0 : v1 = (F_x11_verse u0 u1 i3 a7 a8).1) (e1 : ni3 = (F_x11_verse u0 u1 i3 a7 a8).2.1) (e2 : na7 = (F_x11_verse u0 u1 i3 a7 a8).2.2.1) (e3 : na8 = (F_x11_verse u0 u1 i3 a7 a8).2.2.2) (f0 : v2 = (F_m12_verse u0 u1 j2 b2 b3).1) (f1 : nj2 = (F_m12_verse u0 u1 j2 b2 b3).2.1) (f2 : nb2 = (F_m12_verse u0 u1 j2 b2 b3).2.2.1) (f3 : nb3 = (F_m12_verse u0 u1 j2 b2 b3).2.2.2) : v1.toInt = v2.toInt ∧ R1 i0 i1 i2 ni3 i6 i7 i8 i9 i10 a1 a4 a5 na7 na8 a13 a18 a19 a20 a21 a22 a23 a24 a25 a26 r9n r9c rtn rtc j0 j1 nj2 j3 j4 j5 j6 j7 b1 nb2 nb3 b4 b5 b8 b12 b13 b14 b15 b16 b17 b18 b19 b20 b21 b22 b23 b24 b25 b26 := by
  obtain ⟨⟨q0, q1, q2, q3, q6, q7, q9, q10⟩, ⟨g0, g1, g2, g3, g6, g7, g9, g10⟩, T, W, V, R, P, D, L, M, C⟩ := h
  subst q0 q1 q2 q3 q6 q7 q9 q10
  have r := R_verse (u0 := u0) (u1 := u1) (a8 := a8) (b3 := b3) g3 V
  have rm := R_verseM (u0 := u0) (u1 := u1) (a7 := a7) (b2 := b2) g3 M
  subst e0 e1 e2 e3 f0 f1 f2 f3
  exact ⟨by rw [r.1], ⟨rfl, rfl, rfl, r.2.1, rfl, rfl, rfl, rfl⟩, ⟨g0, g1, g2, r.2.2.2, g6, g7, g9, g10⟩, T, W, r.2.2.1, R, P, D, L, rm, C⟩
theorem R1_source {i0 i1 i2 i3 i6 i7 i8 i9 i10 j0 j1 j2 j3 j4 j5 j6 j7 u0 u1 u2 v1 ni0 v2 nj0 : Int32} {a1 a4 a5 a7 a8 a13 a18 a19 a20 a21 a22 a23 a24 a25 a26 b1 b2 b3 b4 b5 b8 b12 b13 b14 b15 b16 b17 b18 b19 b20 b21 b22 b23 b24 b25 b26 nb4 nb5 : Nat → Int32} {r9n rtn nr9n : Nat → Nat} {r9c rtc nr9c : Nat → Nat → Int32} (h : R1 i0 i1 i2 i3 i6 i7 i8 i9 i10 a1 a4 a5 a7 a8 a13 a18 a19 a20 a21 a22 a23 a24 a25 a26 r9n r9c rtn rtc j0 j1 j2 j3 j4 j5 j6 j7 b1 b2 b3 b4 b5 b8 b12 b13 b14 b15 b16 b17 b18 b19 b20 b21 b22 b23 b24 b25 b26) (e0 : v1 = (F_x11_source u0 u1 u2 i0 i3 a1 r9n r9c).1) (e1 : ni0 = (F_x11_source u0 u1 u2 i0 i3 a1 r9n r9c).2.1) (e2 : nr9n = (F_x11_source u0 u1 u2 i0 i3 a1 r9n r9c).2.2.1) (e3 : nr9c = (F_x11_source u0 u1 u2 i0 i3 a1 r9n r9c).2.2.2) (f0 : v2 = (F_m12_source u0 u1 u2 j0 j2 b1 b4 b5).1) (f1 : nj0 = (F_m12_source u0 u1 u2 j0 j2 b1 b4 b5).2.1) (f2 : nb4 = (F_m12_source u0 u1 u2 j0 j2 b1 b4 b5).2.2.1) (f3 : nb5 = (F_m12_source u0 u1 u2 j0 j2 b1 b4 b5).2.2.2) : v1.toInt = v2.toInt ∧ R1 ni0 i1 i2 i3 i6 i7 i8 i9 i10 a1 a4 a5 a7 a8 a13 a18 a19 a20 a21 a22 a23 a24 a25 a26 nr9n nr9c rtn rtc nj0 j1 j2 j3 j4 j5 j6 j7 b1 b2 b3 nb4 nb5 b8 b12 b13 b14 b15 b16 b17 b18 b19 b20 b21 b22 b23 b24 b25 b26 := by
  obtain ⟨⟨q0, q1, q2, q3, q6, q7, q9, q10⟩, ⟨g0, g1, g2, g3, g6, g7, g9, g10⟩, T, W, V, R, P, D, L, M, C⟩ := h
  subst q0 q1 q2 q3 q6 q7 q9 q10
  have r := R_source (u0 := u0) (u1 := u1) (u2 := u2) g0 g3 T R
  subst e0 e1 e2 e3 f0 f1 f2 f3
  exact ⟨by rw [r.1], ⟨r.2.1, rfl, rfl, rfl, rfl, rfl, rfl, rfl⟩, ⟨r.2.2.2, g1, g2, g3, g6, g7, g9, g10⟩, T, W, V, r.2.2.1, P, D, L, M, C⟩
theorem R1_token {i0 i1 i2 i3 i6 i7 i8 i9 i10 j0 j1 j2 j3 j4 j5 j6 j7 u0 u1 u2 v1 v2 : Int32} {a1 a4 a5 a7 a8 a13 a18 a19 a20 a21 a22 a23 a24 a25 a26 b1 b2 b3 b4 b5 b8 b12 b13 b14 b15 b16 b17 b18 b19 b20 b21 b22 b23 b24 b25 b26 : Nat → Int32} {r9n rtn : Nat → Nat} {r9c rtc : Nat → Nat → Int32} (h : R1 i0 i1 i2 i3 i6 i7 i8 i9 i10 a1 a4 a5 a7 a8 a13 a18 a19 a20 a21 a22 a23 a24 a25 a26 r9n r9c rtn rtc j0 j1 j2 j3 j4 j5 j6 j7 b1 b2 b3 b4 b5 b8 b12 b13 b14 b15 b16 b17 b18 b19 b20 b21 b22 b23 b24 b25 b26) (e0 : v1 = (F_x11_token u0 u1 u2 i3 r9n r9c)) (f0 : v2 = (F_m12_token u0 u1 u2 j2 b4 b5)) : v1.toInt = v2.toInt := by
  obtain ⟨⟨q0, q1, q2, q3, q6, q7, q9, q10⟩, ⟨g0, g1, g2, g3, g6, g7, g9, g10⟩, T, W, V, R, P, D, L, M, C⟩ := h
  subst q0 q1 q2 q3 q6 q7 q9 q10
  have r := R_token (u0 := u0) (u1 := u1) (u2 := u2) g3 R
  subst e0 f0
  rw [r]
theorem R1_word {i0 i1 i2 i3 i6 i7 i8 i9 i10 j0 j1 j2 j3 j4 j5 j6 j7 u0 v1 ni0 ni2 v2 nj0 nj3 : Int32} {a1 a4 a5 a7 a8 a13 a18 a19 a20 a21 a22 a23 a24 a25 a26 b1 b2 b3 b4 b5 b8 b12 b13 b14 b15 b16 b17 b18 b19 b20 b21 b22 b23 b24 b25 b26 na4 na5 nb13 nb14 : Nat → Int32} {r9n rtn : Nat → Nat} {r9c rtc : Nat → Nat → Int32} (h : R1 i0 i1 i2 i3 i6 i7 i8 i9 i10 a1 a4 a5 a7 a8 a13 a18 a19 a20 a21 a22 a23 a24 a25 a26 r9n r9c rtn rtc j0 j1 j2 j3 j4 j5 j6 j7 b1 b2 b3 b4 b5 b8 b12 b13 b14 b15 b16 b17 b18 b19 b20 b21 b22 b23 b24 b25 b26) (e0 : v1 = (F_x11_word u0 i0 i2 a1 a4 a5).1) (e1 : ni0 = (F_x11_word u0 i0 i2 a1 a4 a5).2.1) (e2 : ni2 = (F_x11_word u0 i0 i2 a1 a4 a5).2.2.1) (e3 : na4 = (F_x11_word u0 i0 i2 a1 a4 a5).2.2.2.1) (e4 : na5 = (F_x11_word u0 i0 i2 a1 a4 a5).2.2.2.2) (f0 : v2 = (F_m12_word u0 j0 j3 b1 b13 b14).1) (f1 : nj0 = (F_m12_word u0 j0 j3 b1 b13 b14).2.1) (f2 : nj3 = (F_m12_word u0 j0 j3 b1 b13 b14).2.2.1) (f3 : nb13 = (F_m12_word u0 j0 j3 b1 b13 b14).2.2.2.1) (f4 : nb14 = (F_m12_word u0 j0 j3 b1 b13 b14).2.2.2.2) : v1.toInt = v2.toInt ∧ R1 ni0 i1 ni2 i3 i6 i7 i8 i9 i10 a1 na4 na5 a7 a8 a13 a18 a19 a20 a21 a22 a23 a24 a25 a26 r9n r9c rtn rtc nj0 j1 j2 nj3 j4 j5 j6 j7 b1 b2 b3 b4 b5 b8 b12 nb13 nb14 b15 b16 b17 b18 b19 b20 b21 b22 b23 b24 b25 b26 := by
  obtain ⟨⟨q0, q1, q2, q3, q6, q7, q9, q10⟩, ⟨g0, g1, g2, g3, g6, g7, g9, g10⟩, T, W, V, R, P, D, L, M, C⟩ := h
  subst q0 q1 q2 q3 q6 q7 q9 q10
  have r := R_word (u0 := u0) g0 g2 T W rfl rfl
  subst e0 e1 e2 e3 e4 f0 f1 f2 f3 f4
  exact ⟨by rw [r.1], ⟨r.2.1, rfl, r.2.2.1, rfl, rfl, rfl, rfl, rfl⟩, ⟨r.2.2.2.2.1, g1, r.2.2.2.2.2, g3, g6, g7, g9, g10⟩, T, r.2.2.2.1, V, R, P, D, L, M, C⟩
theorem R1_spell {i0 i1 i2 i3 i6 i7 i8 i9 i10 j0 j1 j2 j3 j4 j5 j6 j7 u0 u1 u2 v1 ni0 nj0 : Int32} {a1 a4 a5 a7 a8 a13 a18 a19 a20 a21 a22 a23 a24 a25 a26 b1 b2 b3 b4 b5 b8 b12 b13 b14 b15 b16 b17 b18 b19 b20 b21 b22 b23 b24 b25 b26 na4 na5 : Nat → Int32} {r9n rtn : Nat → Nat} {r9c rtc : Nat → Nat → Int32} (h : R1 i0 i1 i2 i3 i6 i7 i8 i9 i10 a1 a4 a5 a7 a8 a13 a18 a19 a20 a21 a22 a23 a24 a25 a26 r9n r9c rtn rtc j0 j1 j2 j3 j4 j5 j6 j7 b1 b2 b3 b4 b5 b8 b12 b13 b14 b15 b16 b17 b18 b19 b20 b21 b22 b23 b24 b25 b26) (e0 : v1 = (F_x11_spell u0 u1 u2 i0 i2 a1 a4 a5).1) (e1 : ni0 = (F_x11_spell u0 u1 u2 i0 i2 a1 a4 a5).2.1) (e2 : na4 = (F_x11_spell u0 u1 u2 i0 i2 a1 a4 a5).2.2.1) (e3 : na5 = (F_x11_spell u0 u1 u2 i0 i2 a1 a4 a5).2.2.2) (f0 : nj0 = (F_m12_spell u0 u1 u2 j0 j3 b1)) : ((v1.toInt = 1 ∧ nj0.toInt = 0 ∧ 1 ≤ j0.toInt) ∨ (v1.toInt = 0 ∧ nj0.toInt = j0.toInt)) ∧ R1 ni0 i1 i2 i3 i6 i7 i8 i9 i10 a1 na4 na5 a7 a8 a13 a18 a19 a20 a21 a22 a23 a24 a25 a26 r9n r9c rtn rtc nj0 j1 j2 j3 j4 j5 j6 j7 b1 b2 b3 b4 b5 b8 b12 b13 b14 b15 b16 b17 b18 b19 b20 b21 b22 b23 b24 b25 b26 := by
  obtain ⟨⟨q0, q1, q2, q3, q6, q7, q9, q10⟩, ⟨g0, g1, g2, g3, g6, g7, g9, g10⟩, T, W, V, R, P, D, L, M, C⟩ := h
  subst q0 q1 q2 q3 q6 q7 q9 q10
  have r := R_spell (u0 := u0) (u1 := u1) (u2 := u2) g0 g2 T W rfl rfl
  subst e0 e1 e2 e3 f0
  refine ⟨?_, ⟨r.1, rfl, rfl, rfl, rfl, rfl, rfl, rfl⟩, ⟨by rw [r.1]; exact r.2.1, g1, g2, g3, g6, g7, g9, g10⟩, T, r.2.2.1, V, R, P, D, L, M, C⟩
  rcases r.2.2.2 with ⟨r1, r2, r3⟩ | ⟨r1, r2⟩
  · exact Or.inl ⟨by rw [r1]; decide, r2, r3⟩
  · exact Or.inr ⟨by rw [r1]; decide, by rw [r2]⟩
theorem R1_syllables {i0 i1 i2 i3 i6 i7 i8 i9 i10 j0 j1 j2 j3 j4 j5 j6 j7 u0 v1 v2 : Int32} {a1 a4 a5 a7 a8 a13 a18 a19 a20 a21 a22 a23 a24 a25 a26 b1 b2 b3 b4 b5 b8 b12 b13 b14 b15 b16 b17 b18 b19 b20 b21 b22 b23 b24 b25 b26 : Nat → Int32} {r9n rtn : Nat → Nat} {r9c rtc : Nat → Nat → Int32} (h : R1 i0 i1 i2 i3 i6 i7 i8 i9 i10 a1 a4 a5 a7 a8 a13 a18 a19 a20 a21 a22 a23 a24 a25 a26 r9n r9c rtn rtc j0 j1 j2 j3 j4 j5 j6 j7 b1 b2 b3 b4 b5 b8 b12 b13 b14 b15 b16 b17 b18 b19 b20 b21 b22 b23 b24 b25 b26) (e0 : v1 = (F_x11_syllables u0 i2 a4 a5)) (f0 : v2 = (F_m12_syllables u0 j3 b13 b14)) : v1.toInt = v2.toInt := by
  obtain ⟨⟨q0, q1, q2, q3, q6, q7, q9, q10⟩, ⟨g0, g1, g2, g3, g6, g7, g9, g10⟩, T, W, V, R, P, D, L, M, C⟩ := h
  subst q0 q1 q2 q3 q6 q7 q9 q10
  have r := R_syllables (u0 := u0) g2 W
  subst e0 f0
  rw [r]
theorem R1_company {i0 i1 i2 i3 i6 i7 i8 i9 i10 j0 j1 j2 j3 j4 j5 j6 j7 u0 u1 v1 ni6 v2 nj4 : Int32} {a1 a4 a5 a7 a8 a13 a18 a19 a20 a21 a22 a23 a24 a25 a26 b1 b2 b3 b4 b5 b8 b12 b13 b14 b15 b16 b17 b18 b19 b20 b21 b22 b23 b24 b25 b26 a14 na13 na14 nb8 : Nat → Int32} {r9n rtn : Nat → Nat} {r9c rtc : Nat → Nat → Int32} (h : R1 i0 i1 i2 i3 i6 i7 i8 i9 i10 a1 a4 a5 a7 a8 a13 a18 a19 a20 a21 a22 a23 a24 a25 a26 r9n r9c rtn rtc j0 j1 j2 j3 j4 j5 j6 j7 b1 b2 b3 b4 b5 b8 b12 b13 b14 b15 b16 b17 b18 b19 b20 b21 b22 b23 b24 b25 b26) (e0 : v1 = (F_x11_company u0 u1 i6 a13 a14).1) (e1 : ni6 = (F_x11_company u0 u1 i6 a13 a14).2.1) (e2 : na13 = (F_x11_company u0 u1 i6 a13 a14).2.2.1) (e3 : na14 = (F_x11_company u0 u1 i6 a13 a14).2.2.2) (f0 : v2 = (F_m12_company u0 u1 j4 b8).1) (f1 : nj4 = (F_m12_company u0 u1 j4 b8).2.1) (f2 : nb8 = (F_m12_company u0 u1 j4 b8).2.2) : v1.toInt = v2.toInt ∧ R1 i0 i1 i2 i3 ni6 i7 i8 i9 i10 a1 a4 a5 a7 a8 na13 a18 a19 a20 a21 a22 a23 a24 a25 a26 r9n r9c rtn rtc j0 j1 j2 j3 nj4 j5 j6 j7 b1 b2 b3 b4 b5 nb8 b12 b13 b14 b15 b16 b17 b18 b19 b20 b21 b22 b23 b24 b25 b26 := by
  obtain ⟨⟨q0, q1, q2, q3, q6, q7, q9, q10⟩, ⟨g0, g1, g2, g3, g6, g7, g9, g10⟩, T, W, V, R, P, D, L, M, C⟩ := h
  subst q0 q1 q2 q3 q6 q7 q9 q10
  have r := R_company (u0 := u0) (u1 := u1) (a14 := a14) g6 P
  subst e0 e1 e2 e3 f0 f1 f2
  exact ⟨by rw [r.1], ⟨rfl, rfl, rfl, rfl, r.2.1, rfl, rfl, rfl⟩, ⟨g0, g1, g2, g3, r.2.2.2, g7, g9, g10⟩, T, W, V, R, r.2.2.1, D, L, M, C⟩
theorem R1_rules {i0 i1 i2 i3 i6 i7 i8 i9 i10 j0 j1 j2 j3 j4 j5 j6 j7 u0 u1 u2 u3 i12 i13 i14 i15 i16 j9 j10 j11 j12 j13 j14 j15 j16 j17 v1 ni0 ni9 ni12 ni13 ni14 ni15 ni16 v2 nj0 nj6 nj9 nj10 nj11 nj12 nj13 nj14 nj15 nj16 nj17 : Int32} {a1 a4 a5 a7 a8 a13 a18 a19 a20 a21 a22 a23 a24 a25 a26 b1 b2 b3 b4 b5 b8 b12 b13 b14 b15 b16 b17 b18 b19 b20 b21 b22 b23 b24 b25 b26 b27 na18 na19 na20 na21 na22 na23 na24 na25 na26 nb15 nb16 nb17 nb18 nb19 nb20 nb21 nb22 nb23 nb24 nb25 nb26 nb27 : Nat → Int32} {r9n rtn nrtn : Nat → Nat} {r9c rtc nrtc : Nat → Nat → Int32} (h : R1 i0 i1 i2 i3 i6 i7 i8 i9 i10 a1 a4 a5 a7 a8 a13 a18 a19 a20 a21 a22 a23 a24 a25 a26 r9n r9c rtn rtc j0 j1 j2 j3 j4 j5 j6 j7 b1 b2 b3 b4 b5 b8 b12 b13 b14 b15 b16 b17 b18 b19 b20 b21 b22 b23 b24 b25 b26) (e0 : v1 = (F_x11_rules u0 u1 u2 u3 i0 i6 i9 i12 i13 i14 i15 i16 a1 a18 a19 a20 a21 a22 a23 a24 a25 a26 rtn rtc).1) (e1 : ni0 = (F_x11_rules u0 u1 u2 u3 i0 i6 i9 i12 i13 i14 i15 i16 a1 a18 a19 a20 a21 a22 a23 a24 a25 a26 rtn rtc).2.1) (e2 : ni9 = (F_x11_rules u0 u1 u2 u3 i0 i6 i9 i12 i13 i14 i15 i16 a1 a18 a19 a20 a21 a22 a23 a24 a25 a26 rtn rtc).2.2.1) (e3 : ni12 = (F_x11_rules u0 u1 u2 u3 i0 i6 i9 i12 i13 i14 i15 i16 a1 a18 a19 a20 a21 a22 a23 a24 a25 a26 rtn rtc).2.2.2.1) (e4 : ni13 = (F_x11_rules u0 u1 u2 u3 i0 i6 i9 i12 i13 i14 i15 i16 a1 a18 a19 a20 a21 a22 a23 a24 a25 a26 rtn rtc).2.2.2.2.1) (e5 : ni14 = (F_x11_rules u0 u1 u2 u3 i0 i6 i9 i12 i13 i14 i15 i16 a1 a18 a19 a20 a21 a22 a23 a24 a25 a26 rtn rtc).2.2.2.2.2.1) (e6 : ni15 = (F_x11_rules u0 u1 u2 u3 i0 i6 i9 i12 i13 i14 i15 i16 a1 a18 a19 a20 a21 a22 a23 a24 a25 a26 rtn rtc).2.2.2.2.2.2.1) (e7 : ni16 = (F_x11_rules u0 u1 u2 u3 i0 i6 i9 i12 i13 i14 i15 i16 a1 a18 a19 a20 a21 a22 a23 a24 a25 a26 rtn rtc).2.2.2.2.2.2.2.1) (e8 : na18 = (F_x11_rules u0 u1 u2 u3 i0 i6 i9 i12 i13 i14 i15 i16 a1 a18 a19 a20 a21 a22 a23 a24 a25 a26 rtn rtc).2.2.2.2.2.2.2.2.1) (e9 : na19 = (F_x11_rules u0 u1 u2 u3 i0 i6 i9 i12 i13 i14 i15 i16 a1 a18 a19 a20 a21 a22 a23 a24 a25 a26 rtn rtc).2.2.2.2.2.2.2.2.2.1) (e10 : na20 = (F_x11_rules u0 u1 u2 u3 i0 i6 i9 i12 i13 i14 i15 i16 a1 a18 a19 a20 a21 a22 a23 a24 a25 a26 rtn rtc).2.2.2.2.2.2.2.2.2.2.1) (e11 : na21 = (F_x11_rules u0 u1 u2 u3 i0 i6 i9 i12 i13 i14 i15 i16 a1 a18 a19 a20 a21 a22 a23 a24 a25 a26 rtn rtc).2.2.2.2.2.2.2.2.2.2.2.1) (e12 : na22 = (F_x11_rules u0 u1 u2 u3 i0 i6 i9 i12 i13 i14 i15 i16 a1 a18 a19 a20 a21 a22 a23 a24 a25 a26 rtn rtc).2.2.2.2.2.2.2.2.2.2.2.2.1) (e13 : na23 = (F_x11_rules u0 u1 u2 u3 i0 i6 i9 i12 i13 i14 i15 i16 a1 a18 a19 a20 a21 a22 a23 a24 a25 a26 rtn rtc).2.2.2.2.2.2.2.2.2.2.2.2.2.1) (e14 : na24 = (F_x11_rules u0 u1 u2 u3 i0 i6 i9 i12 i13 i14 i15 i16 a1 a18 a19 a20 a21 a22 a23 a24 a25 a26 rtn rtc).2.2.2.2.2.2.2.2.2.2.2.2.2.2.1) (e15 : na25 = (F_x11_rules u0 u1 u2 u3 i0 i6 i9 i12 i13 i14 i15 i16 a1 a18 a19 a20 a21 a22 a23 a24 a25 a26 rtn rtc).2.2.2.2.2.2.2.2.2.2.2.2.2.2.2.1) (e16 : na26 = (F_x11_rules u0 u1 u2 u3 i0 i6 i9 i12 i13 i14 i15 i16 a1 a18 a19 a20 a21 a22 a23 a24 a25 a26 rtn rtc).2.2.2.2.2.2.2.2.2.2.2.2.2.2.2.2.1) (e17 : nrtn = (F_x11_rules u0 u1 u2 u3 i0 i6 i9 i12 i13 i14 i15 i16 a1 a18 a19 a20 a21 a22 a23 a24 a25 a26 rtn rtc).2.2.2.2.2.2.2.2.2.2.2.2.2.2.2.2.2.1) (e18 : nrtc = (F_x11_rules u0 u1 u2 u3 i0 i6 i9 i12 i13 i14 i15 i16 a1 a18 a19 a20 a21 a22 a23 a24 a25 a26 rtn rtc).2.2.2.2.2.2.2.2.2.2.2.2.2.2.2.2.2.2) (f0 : v2 = (F_m12_rules u0 u1 u2 u3 j0 j4 j6 j9 j10 j11 j12 j13 j14 j15 j16 j17 b1 b15 b16 b17 b18 b19 b20 b21 b22 b23 b24 b25 b26 b27).1) (f1 : nj0 = (F_m12_rules u0 u1 u2 u3 j0 j4 j6 j9 j10 j11 j12 j13 j14 j15 j16 j17 b1 b15 b16 b17 b18 b19 b20 b21 b22 b23 b24 b25 b26 b27).2.1) (f2 : nj6 = (F_m12_rules u0 u1 u2 u3 j0 j4 j6 j9 j10 j11 j12 j13 j14 j15 j16 j17 b1 b15 b16 b17 b18 b19 b20 b21 b22 b23 b24 b25 b26 b27).2.2.1) (f3 : nj9 = (F_m12_rules u0 u1 u2 u3 j0 j4 j6 j9 j10 j11 j12 j13 j14 j15 j16 j17 b1 b15 b16 b17 b18 b19 b20 b21 b22 b23 b24 b25 b26 b27).2.2.2.1) (f4 : nj10 = (F_m12_rules u0 u1 u2 u3 j0 j4 j6 j9 j10 j11 j12 j13 j14 j15 j16 j17 b1 b15 b16 b17 b18 b19 b20 b21 b22 b23 b24 b25 b26 b27).2.2.2.2.1) (f5 : nj11 = (F_m12_rules u0 u1 u2 u3 j0 j4 j6 j9 j10 j11 j12 j13 j14 j15 j16 j17 b1 b15 b16 b17 b18 b19 b20 b21 b22 b23 b24 b25 b26 b27).2.2.2.2.2.1) (f6 : nj12 = (F_m12_rules u0 u1 u2 u3 j0 j4 j6 j9 j10 j11 j12 j13 j14 j15 j16 j17 b1 b15 b16 b17 b18 b19 b20 b21 b22 b23 b24 b25 b26 b27).2.2.2.2.2.2.1) (f7 : nj13 = (F_m12_rules u0 u1 u2 u3 j0 j4 j6 j9 j10 j11 j12 j13 j14 j15 j16 j17 b1 b15 b16 b17 b18 b19 b20 b21 b22 b23 b24 b25 b26 b27).2.2.2.2.2.2.2.1) (f8 : nj14 = (F_m12_rules u0 u1 u2 u3 j0 j4 j6 j9 j10 j11 j12 j13 j14 j15 j16 j17 b1 b15 b16 b17 b18 b19 b20 b21 b22 b23 b24 b25 b26 b27).2.2.2.2.2.2.2.2.1) (f9 : nj15 = (F_m12_rules u0 u1 u2 u3 j0 j4 j6 j9 j10 j11 j12 j13 j14 j15 j16 j17 b1 b15 b16 b17 b18 b19 b20 b21 b22 b23 b24 b25 b26 b27).2.2.2.2.2.2.2.2.2.1) (f10 : nj16 = (F_m12_rules u0 u1 u2 u3 j0 j4 j6 j9 j10 j11 j12 j13 j14 j15 j16 j17 b1 b15 b16 b17 b18 b19 b20 b21 b22 b23 b24 b25 b26 b27).2.2.2.2.2.2.2.2.2.2.1) (f11 : nj17 = (F_m12_rules u0 u1 u2 u3 j0 j4 j6 j9 j10 j11 j12 j13 j14 j15 j16 j17 b1 b15 b16 b17 b18 b19 b20 b21 b22 b23 b24 b25 b26 b27).2.2.2.2.2.2.2.2.2.2.2.1) (f12 : nb15 = (F_m12_rules u0 u1 u2 u3 j0 j4 j6 j9 j10 j11 j12 j13 j14 j15 j16 j17 b1 b15 b16 b17 b18 b19 b20 b21 b22 b23 b24 b25 b26 b27).2.2.2.2.2.2.2.2.2.2.2.2.1) (f13 : nb16 = (F_m12_rules u0 u1 u2 u3 j0 j4 j6 j9 j10 j11 j12 j13 j14 j15 j16 j17 b1 b15 b16 b17 b18 b19 b20 b21 b22 b23 b24 b25 b26 b27).2.2.2.2.2.2.2.2.2.2.2.2.2.1) (f14 : nb17 = (F_m12_rules u0 u1 u2 u3 j0 j4 j6 j9 j10 j11 j12 j13 j14 j15 j16 j17 b1 b15 b16 b17 b18 b19 b20 b21 b22 b23 b24 b25 b26 b27).2.2.2.2.2.2.2.2.2.2.2.2.2.2.1) (f15 : nb18 = (F_m12_rules u0 u1 u2 u3 j0 j4 j6 j9 j10 j11 j12 j13 j14 j15 j16 j17 b1 b15 b16 b17 b18 b19 b20 b21 b22 b23 b24 b25 b26 b27).2.2.2.2.2.2.2.2.2.2.2.2.2.2.2.1) (f16 : nb19 = (F_m12_rules u0 u1 u2 u3 j0 j4 j6 j9 j10 j11 j12 j13 j14 j15 j16 j17 b1 b15 b16 b17 b18 b19 b20 b21 b22 b23 b24 b25 b26 b27).2.2.2.2.2.2.2.2.2.2.2.2.2.2.2.2.1) (f17 : nb20 = (F_m12_rules u0 u1 u2 u3 j0 j4 j6 j9 j10 j11 j12 j13 j14 j15 j16 j17 b1 b15 b16 b17 b18 b19 b20 b21 b22 b23 b24 b25 b26 b27).2.2.2.2.2.2.2.2.2.2.2.2.2.2.2.2.2.1) (f18 : nb21 = (F_m12_rules u0 u1 u2 u3 j0 j4 j6 j9 j10 j11 j12 j13 j14 j15 j16 j17 b1 b15 b16 b17 b18 b19 b20 b21 b22 b23 b24 b25 b26 b27).2.2.2.2.2.2.2.2.2.2.2.2.2.2.2.2.2.2.1) (f19 : nb22 = (F_m12_rules u0 u1 u2 u3 j0 j4 j6 j9 j10 j11 j12 j13 j14 j15 j16 j17 b1 b15 b16 b17 b18 b19 b20 b21 b22 b23 b24 b25 b26 b27).2.2.2.2.2.2.2.2.2.2.2.2.2.2.2.2.2.2.2.1) (f20 : nb23 = (F_m12_rules u0 u1 u2 u3 j0 j4 j6 j9 j10 j11 j12 j13 j14 j15 j16 j17 b1 b15 b16 b17 b18 b19 b20 b21 b22 b23 b24 b25 b26 b27).2.2.2.2.2.2.2.2.2.2.2.2.2.2.2.2.2.2.2.2.1) (f21 : nb24 = (F_m12_rules u0 u1 u2 u3 j0 j4 j6 j9 j10 j11 j12 j13 j14 j15 j16 j17 b1 b15 b16 b17 b18 b19 b20 b21 b22 b23 b24 b25 b26 b27).2.2.2.2.2.2.2.2.2.2.2.2.2.2.2.2.2.2.2.2.2.1) (f22 : nb25 = (F_m12_rules u0 u1 u2 u3 j0 j4 j6 j9 j10 j11 j12 j13 j14 j15 j16 j17 b1 b15 b16 b17 b18 b19 b20 b21 b22 b23 b24 b25 b26 b27).2.2.2.2.2.2.2.2.2.2.2.2.2.2.2.2.2.2.2.2.2.2.1) (f23 : nb26 = (F_m12_rules u0 u1 u2 u3 j0 j4 j6 j9 j10 j11 j12 j13 j14 j15 j16 j17 b1 b15 b16 b17 b18 b19 b20 b21 b22 b23 b24 b25 b26 b27).2.2.2.2.2.2.2.2.2.2.2.2.2.2.2.2.2.2.2.2.2.2.2.1) (f24 : nb27 = (F_m12_rules u0 u1 u2 u3 j0 j4 j6 j9 j10 j11 j12 j13 j14 j15 j16 j17 b1 b15 b16 b17 b18 b19 b20 b21 b22 b23 b24 b25 b26 b27).2.2.2.2.2.2.2.2.2.2.2.2.2.2.2.2.2.2.2.2.2.2.2.2) : v1.toInt = v2.toInt ∧ R1 ni0 i1 i2 i3 i6 i7 i8 ni9 i10 a1 a4 a5 a7 a8 a13 na18 na19 na20 na21 na22 na23 na24 na25 na26 r9n r9c nrtn nrtc nj0 j1 j2 j3 j4 j5 nj6 j7 b1 b2 b3 b4 b5 b8 b12 b13 b14 nb15 nb16 nb17 nb18 nb19 nb20 nb21 nb22 nb23 nb24 nb25 nb26 := by
  obtain ⟨⟨q0, q1, q2, q3, q6, q7, q9, q10⟩, ⟨g0, g1, g2, g3, g6, g7, g9, g10⟩, T, W, V, R, P, D, L, M, C⟩ := h
  subst q0 q1 q2 q3 q6 q7 q9 q10
  have r := R_rules (u0 := u0) (u1 := u1) (u2 := u2) (u3 := u3) (i12 := i12) (i13 := i13) (i14 := i14) (i15 := i15) (i16 := i16) (m9 := j9) (m10 := j10) (m11 := j11) (m12 := j12) (m13 := j13) (m14 := j14) (m15 := j15) (m16 := j16) (m17 := j17) (b27 := b27) g0 g6.1 g9 T L C
  subst e0 e1 e2 e3 e4 e5 e6 e7 e8 e9 e10 e11 e12 e13 e14 e15 e16 e17 e18 f0 f1 f2 f3 f4 f5 f6 f7 f8 f9 f10 f11 f12 f13 f14 f15 f16 f17 f18 f19 f20 f21 f22 f23 f24
  exact ⟨by rw [r.1.1], ⟨r.1.2.1, rfl, rfl, rfl, rfl, rfl, r.1.2.2.1, rfl⟩, ⟨r.1.2.2.2.1, g1, g2, g3, g6, g7, r.1.2.2.2.2.1, g10⟩, T, W, V, R, P, D, r.1.2.2.2.2.2, M, r.2⟩
theorem R1_holds {i0 i1 i2 i3 i6 i7 i8 i9 i10 j0 j1 j2 j3 j4 j5 j6 j7 u0 u1 u2 u3 i17 i18 i19 i20 i21 i22 i23 i24 i25 i26 v1 ni17 ni18 ni19 ni20 ni21 ni22 ni23 ni24 ni25 ni26 v2 : Int32} {ptn nptn : Nat} {a1 a4 a5 a7 a8 a13 a18 a19 a20 a21 a22 a23 a24 a25 a26 b1 b2 b3 b4 b5 b8 b12 b13 b14 b15 b16 b17 b18 b19 b20 b21 b22 b23 b24 b25 b26 ptc b28 b29 nptc nb28 nb29 : Nat → Int32} {r9n rtn : Nat → Nat} {r9c rtc : Nat → Nat → Int32} (h : R1 i0 i1 i2 i3 i6 i7 i8 i9 i10 a1 a4 a5 a7 a8 a13 a18 a19 a20 a21 a22 a23 a24 a25 a26 r9n r9c rtn rtc j0 j1 j2 j3 j4 j5 j6 j7 b1 b2 b3 b4 b5 b8 b12 b13 b14 b15 b16 b17 b18 b19 b20 b21 b22 b23 b24 b25 b26) (hk : KI j6 b18 b19 b20 b21 b22) (e0 : v1 = (F_x11_holds u0 u1 u2 u3 i3 i6 i9 i17 i18 i19 i20 i21 i22 i23 i24 i25 i26 a7 a8 a13 a18 a19 a20 a21 a22 a23 a25 a26 r9n r9c rtn rtc ptn ptc).1) (e1 : ni17 = (F_x11_holds u0 u1 u2 u3 i3 i6 i9 i17 i18 i19 i20 i21 i22 i23 i24 i25 i26 a7 a8 a13 a18 a19 a20 a21 a22 a23 a25 a26 r9n r9c rtn rtc ptn ptc).2.1) (e2 : ni18 = (F_x11_holds u0 u1 u2 u3 i3 i6 i9 i17 i18 i19 i20 i21 i22 i23 i24 i25 i26 a7 a8 a13 a18 a19 a20 a21 a22 a23 a25 a26 r9n r9c rtn rtc ptn ptc).2.2.1) (e3 : ni19 = (F_x11_holds u0 u1 u2 u3 i3 i6 i9 i17 i18 i19 i20 i21 i22 i23 i24 i25 i26 a7 a8 a13 a18 a19 a20 a21 a22 a23 a25 a26 r9n r9c rtn rtc ptn ptc).2.2.2.1) (e4 : ni20 = (F_x11_holds u0 u1 u2 u3 i3 i6 i9 i17 i18 i19 i20 i21 i22 i23 i24 i25 i26 a7 a8 a13 a18 a19 a20 a21 a22 a23 a25 a26 r9n r9c rtn rtc ptn ptc).2.2.2.2.1) (e5 : ni21 = (F_x11_holds u0 u1 u2 u3 i3 i6 i9 i17 i18 i19 i20 i21 i22 i23 i24 i25 i26 a7 a8 a13 a18 a19 a20 a21 a22 a23 a25 a26 r9n r9c rtn rtc ptn ptc).2.2.2.2.2.1) (e6 : ni22 = (F_x11_holds u0 u1 u2 u3 i3 i6 i9 i17 i18 i19 i20 i21 i22 i23 i24 i25 i26 a7 a8 a13 a18 a19 a20 a21 a22 a23 a25 a26 r9n r9c rtn rtc ptn ptc).2.2.2.2.2.2.1) (e7 : ni23 = (F_x11_holds u0 u1 u2 u3 i3 i6 i9 i17 i18 i19 i20 i21 i22 i23 i24 i25 i26 a7 a8 a13 a18 a19 a20 a21 a22 a23 a25 a26 r9n r9c rtn rtc ptn ptc).2.2.2.2.2.2.2.1) (e8 : ni24 = (F_x11_holds u0 u1 u2 u3 i3 i6 i9 i17 i18 i19 i20 i21 i22 i23 i24 i25 i26 a7 a8 a13 a18 a19 a20 a21 a22 a23 a25 a26 r9n r9c rtn rtc ptn ptc).2.2.2.2.2.2.2.2.1) (e9 : ni25 = (F_x11_holds u0 u1 u2 u3 i3 i6 i9 i17 i18 i19 i20 i21 i22 i23 i24 i25 i26 a7 a8 a13 a18 a19 a20 a21 a22 a23 a25 a26 r9n r9c rtn rtc ptn ptc).2.2.2.2.2.2.2.2.2.1) (e10 : ni26 = (F_x11_holds u0 u1 u2 u3 i3 i6 i9 i17 i18 i19 i20 i21 i22 i23 i24 i25 i26 a7 a8 a13 a18 a19 a20 a21 a22 a23 a25 a26 r9n r9c rtn rtc ptn ptc).2.2.2.2.2.2.2.2.2.2.1) (e11 : nptn = (F_x11_holds u0 u1 u2 u3 i3 i6 i9 i17 i18 i19 i20 i21 i22 i23 i24 i25 i26 a7 a8 a13 a18 a19 a20 a21 a22 a23 a25 a26 r9n r9c rtn rtc ptn ptc).2.2.2.2.2.2.2.2.2.2.2.1) (e12 : nptc = (F_x11_holds u0 u1 u2 u3 i3 i6 i9 i17 i18 i19 i20 i21 i22 i23 i24 i25 i26 a7 a8 a13 a18 a19 a20 a21 a22 a23 a25 a26 r9n r9c rtn rtc ptn ptc).2.2.2.2.2.2.2.2.2.2.2.2) (f0 : v2 = (F_m12_holds u0 u1 u2 u3 j2 j4 j6 b2 b3 b4 b8 b15 b16 b17 b18 b19 b20 b21 b23 b24 b25 b26 b28 b29).1) (f1 : nb28 = (F_m12_holds u0 u1 u2 u3 j2 j4 j6 b2 b3 b4 b8 b15 b16 b17 b18 b19 b20 b21 b23 b24 b25 b26 b28 b29).2.1) (f2 : nb29 = (F_m12_holds u0 u1 u2 u3 j2 j4 j6 b2 b3 b4 b8 b15 b16 b17 b18 b19 b20 b21 b23 b24 b25 b26 b28 b29).2.2) : v1.toInt = v2.toInt := by
  obtain ⟨⟨q0, q1, q2, q3, q6, q7, q9, q10⟩, ⟨g0, g1, g2, g3, g6, g7, g9, g10⟩, T, W, V, R, P, D, L, M, C⟩ := h
  subst q0 q1 q2 q3 q6 q7 q9 q10
  have r := R_holds (u0 := u0) (u1 := u1) (u2 := u2) (u3 := u3) (i17 := i17) (i18 := i18) (i19 := i19) (i20 := i20) (i21 := i21) (i22 := i22) (i23 := i23) (i24 := i24) (i25 := i25) (i26 := i26) (ptn := ptn) (ptc := ptc) (b28 := b28) (b29 := b29) g3 g6 g9 V M P L hk R C
  subst e0 f0
  rw [r]
theorem R1_asks {i0 i1 i2 i3 i6 i7 i8 i9 i10 j0 j1 j2 j3 j4 j5 j6 j7 u0 u1 u2 i17 i18 i19 i20 i21 i22 i23 i24 v1 ni17 ni18 ni19 ni20 ni21 ni22 ni23 ni24 v2 : Int32} {a1 a4 a5 a7 a8 a13 a18 a19 a20 a21 a22 a23 a24 a25 a26 b1 b2 b3 b4 b5 b8 b12 b13 b14 b15 b16 b17 b18 b19 b20 b21 b22 b23 b24 b25 b26 : Nat → Int32} {r9n rtn : Nat → Nat} {r9c rtc : Nat → Nat → Int32} (h : R1 i0 i1 i2 i3 i6 i7 i8 i9 i10 a1 a4 a5 a7 a8 a13 a18 a19 a20 a21 a22 a23 a24 a25 a26 r9n r9c rtn rtc j0 j1 j2 j3 j4 j5 j6 j7 b1 b2 b3 b4 b5 b8 b12 b13 b14 b15 b16 b17 b18 b19 b20 b21 b22 b23 b24 b25 b26) (hk : KI j6 b18 b19 b20 b21 b22) (e0 : v1 = (F_x11_asks u0 u1 u2 i3 i6 i9 i17 i18 i19 i20 i21 i22 i23 i24 a7 a8 a13 a18 a19 a20 a21 a22 a23 a25 r9n r9c).1) (e1 : ni17 = (F_x11_asks u0 u1 u2 i3 i6 i9 i17 i18 i19 i20 i21 i22 i23 i24 a7 a8 a13 a18 a19 a20 a21 a22 a23 a25 r9n r9c).2.1) (e2 : ni18 = (F_x11_asks u0 u1 u2 i3 i6 i9 i17 i18 i19 i20 i21 i22 i23 i24 a7 a8 a13 a18 a19 a20 a21 a22 a23 a25 r9n r9c).2.2.1) (e3 : ni19 = (F_x11_asks u0 u1 u2 i3 i6 i9 i17 i18 i19 i20 i21 i22 i23 i24 a7 a8 a13 a18 a19 a20 a21 a22 a23 a25 r9n r9c).2.2.2.1) (e4 : ni20 = (F_x11_asks u0 u1 u2 i3 i6 i9 i17 i18 i19 i20 i21 i22 i23 i24 a7 a8 a13 a18 a19 a20 a21 a22 a23 a25 r9n r9c).2.2.2.2.1) (e5 : ni21 = (F_x11_asks u0 u1 u2 i3 i6 i9 i17 i18 i19 i20 i21 i22 i23 i24 a7 a8 a13 a18 a19 a20 a21 a22 a23 a25 r9n r9c).2.2.2.2.2.1) (e6 : ni22 = (F_x11_asks u0 u1 u2 i3 i6 i9 i17 i18 i19 i20 i21 i22 i23 i24 a7 a8 a13 a18 a19 a20 a21 a22 a23 a25 r9n r9c).2.2.2.2.2.2.1) (e7 : ni23 = (F_x11_asks u0 u1 u2 i3 i6 i9 i17 i18 i19 i20 i21 i22 i23 i24 a7 a8 a13 a18 a19 a20 a21 a22 a23 a25 r9n r9c).2.2.2.2.2.2.2.1) (e8 : ni24 = (F_x11_asks u0 u1 u2 i3 i6 i9 i17 i18 i19 i20 i21 i22 i23 i24 a7 a8 a13 a18 a19 a20 a21 a22 a23 a25 r9n r9c).2.2.2.2.2.2.2.2) (f0 : v2 = (F_m12_asks u0 u1 u2 j2 j4 j6 b2 b4 b8 b15 b16 b17 b18 b19 b20 b21)) : v1.toInt = v2.toInt := by
  obtain ⟨⟨q0, q1, q2, q3, q6, q7, q9, q10⟩, ⟨g0, g1, g2, g3, g6, g7, g9, g10⟩, T, W, V, R, P, D, L, M, C⟩ := h
  subst q0 q1 q2 q3 q6 q7 q9 q10
  have r := R_asks (u0 := u0) (u1 := u1) (u2 := u2) (i17 := i17) (i18 := i18) (i19 := i19) (i20 := i20) (i21 := i21) (i22 := i22) (i23 := i23) (i24 := i24) (a8 := a8) g3 g6 g9 V P L hk R
  subst e0 f0
  rw [r]
theorem R1_differ {i0 i1 i2 i3 i6 i7 i8 i9 i10 j0 j1 j2 j3 j4 j5 j6 j7 u0 u1 u2 v1 v2 : Int32} {a1 a4 a5 a7 a8 a13 a18 a19 a20 a21 a22 a23 a24 a25 a26 b1 b2 b3 b4 b5 b8 b12 b13 b14 b15 b16 b17 b18 b19 b20 b21 b22 b23 b24 b25 b26 a2 b30 b31 b32 na2 nb30 nb31 nb32 : Nat → Int32} {r9n rtn : Nat → Nat} {r9c rtc : Nat → Nat → Int32} (h : R1 i0 i1 i2 i3 i6 i7 i8 i9 i10 a1 a4 a5 a7 a8 a13 a18 a19 a20 a21 a22 a23 a24 a25 a26 r9n r9c rtn rtc j0 j1 j2 j3 j4 j5 j6 j7 b1 b2 b3 b4 b5 b8 b12 b13 b14 b15 b16 b17 b18 b19 b20 b21 b22 b23 b24 b25 b26) (e0 : v1 = (F_x11_differ u0 u1 u2 i3 a2 r9n r9c).1) (e1 : na2 = (F_x11_differ u0 u1 u2 i3 a2 r9n r9c).2) (f0 : v2 = (F_m12_differ u0 u1 u2 j2 b4 b5 b30 b31 b32).1) (f1 : nb30 = (F_m12_differ u0 u1 u2 j2 b4 b5 b30 b31 b32).2.1) (f2 : nb31 = (F_m12_differ u0 u1 u2 j2 b4 b5 b30 b31 b32).2.2.1) (f3 : nb32 = (F_m12_differ u0 u1 u2 j2 b4 b5 b30 b31 b32).2.2.2) : v1.toInt = v2.toInt := by
  obtain ⟨⟨q0, q1, q2, q3, q6, q7, q9, q10⟩, ⟨g0, g1, g2, g3, g6, g7, g9, g10⟩, T, W, V, R, P, D, L, M, C⟩ := h
  subst q0 q1 q2 q3 q6 q7 q9 q10
  have r := R_differ (u0 := u0) (u1 := u1) (u2 := u2) (a2 := a2) (a30 := b30) (a31 := b31) (a32 := b32) g3 R
  subst e0 f0
  rw [r]
theorem R1_scholar {i0 i1 i2 i3 i6 i7 i8 i9 i10 j0 j1 j2 j3 j4 j5 j6 j7 i4 i11 j18 u0 u1 v1 ni4 ni7 v2 nj5 : Int32} {a1 a4 a5 a7 a8 a13 a18 a19 a20 a21 a22 a23 a24 a25 a26 b1 b2 b3 b4 b5 b8 b12 b13 b14 b15 b16 b17 b18 b19 b20 b21 b22 b23 b24 b25 b26 a15 a29 a30 a31 a32 b10 b11 b33 b34 b35 b36 b37 b38 b39 b40 b41 b42 b43 b44 b45 b46 b47 b48 b49 b50 b51 b52 b53 na15 nb10 nb11 : Nat → Int32} {r9n rtn : Nat → Nat} {r9c rtc og : Nat → Nat → Int32} {ogn : Nat → Nat → Nat} {ogc : Nat → Nat → Nat → Int32} (h : R1 i0 i1 i2 i3 i6 i7 i8 i9 i10 a1 a4 a5 a7 a8 a13 a18 a19 a20 a21 a22 a23 a24 a25 a26 r9n r9c rtn rtc j0 j1 j2 j3 j4 j5 j6 j7 b1 b2 b3 b4 b5 b8 b12 b13 b14 b15 b16 b17 b18 b19 b20 b21 b22 b23 b24 b25 b26) (hh : R2 i3 i4 i6 i7 i10 i11 j18 a15 a29 a30 a31 a32 b2 b8 b10 b11 b12 b33 b34 b35 b36 b37 b38 b39 b40 b41 b42 b43 b44 b45 b46 b47 b48 b49 b50 b51 b52 b53 og ogn ogc) (hu : u1 = 0 ∨ u1 = 1) (e0 : v1 = (F_x11_scholar u0 u1 i4 i6 i7 a15).1) (e1 : ni4 = (F_x11_scholar u0 u1 i4 i6 i7 a15).2.1) (e2 : ni7 = (F_x11_scholar u0 u1 i4 i6 i7 a15).2.2.1) (e3 : na15 = (F_x11_scholar u0 u1 i4 i6 i7 a15).2.2.2) (f0 : v2 = (F_m12_scholar u0 u1 j4 j5 b10 b11).1) (f1 : nj5 = (F_m12_scholar u0 u1 j4 j5 b10 b11).2.1) (f2 : nb10 = (F_m12_scholar u0 u1 j4 j5 b10 b11).2.2.1) (f3 : nb11 = (F_m12_scholar u0 u1 j4 j5 b10 b11).2.2.2) : v1.toInt = v2.toInt ∧ R1 i0 i1 i2 i3 i6 ni7 i8 i9 i10 a1 a4 a5 a7 a8 a13 a18 a19 a20 a21 a22 a23 a24 a25 a26 r9n r9c rtn rtc j0 j1 j2 j3 j4 nj5 j6 j7 b1 b2 b3 b4 b5 b8 b12 b13 b14 b15 b16 b17 b18 b19 b20 b21 b22 b23 b24 b25 b26 := by
  obtain ⟨⟨q0, q1, q2, q3, q6, q7, q9, q10⟩, ⟨g0, g1, g2, g3, g6, g7, g9, g10⟩, T, W, V, R, P, D, L, M1, C1⟩ := h
  subst q0 q1 q2 q3 q6 q7 q9 q10
  obtain ⟨M, C, S, K, V2, Cs, Sd, X, E, E2⟩ := hh
  have r := R_scholar (u0 := u0) (u1 := u1) hu g6 g7 M
  replace e0 := e0.symm
  subst e0
  replace e1 := e1.symm
  subst e1
  replace e2 := e2.symm
  subst e2
  replace e3 := e3.symm
  subst e3
  replace f0 := f0.symm
  subst f0
  replace f1 := f1.symm
  subst f1
  replace f2 := f2.symm
  subst f2
  replace f3 := f3.symm
  subst f3
  exact ⟨by rw [r.1], ⟨rfl, rfl, rfl, rfl, rfl, r.2.1, rfl, rfl⟩, ⟨g0, g1, g2, g3, g6, r.2.2.1, g9, g10⟩, T, W, V, R, P, D, L, M1, C1⟩
theorem R1_render {i0 i1 i2 i3 i6 i7 i8 i9 i10 j0 j1 j2 j3 j4 j5 j6 j7 u0 u1 u2 i17 i18 i19 i20 i21 i22 i23 i24 i35 v1 ni0 ni10 ni17 ni18 ni19 ni20 ni21 ni22 ni23 ni24 ni35 v2 nj0 nj7 : Int32} {a1 a4 a5 a7 a8 a13 a18 a19 a20 a21 a22 a23 a24 a25 a26 b1 b2 b3 b4 b5 b8 b12 b13 b14 b15 b16 b17 b18 b19 b20 b21 b22 b23 b24 b25 b26 b33 b34 b36 b37 b38 b39 b40 b41 b42 b43 b46 nb33 nb34 nb36 nb37 nb38 nb39 nb40 nb41 nb42 nb43 nb46 : Nat → Int32} {r9n rtn : Nat → Nat} {r9c rtc og nog : Nat → Nat → Int32} {ogn nogn : Nat → Nat → Nat} {ogc nogc : Nat → Nat → Nat → Int32} (h : R1 i0 i1 i2 i3 i6 i7 i8 i9 i10 a1 a4 a5 a7 a8 a13 a18 a19 a20 a21 a22 a23 a24 a25 a26 r9n r9c rtn rtc j0 j1 j2 j3 j4 j5 j6 j7 b1 b2 b3 b4 b5 b8 b12 b13 b14 b15 b16 b17 b18 b19 b20 b21 b22 b23 b24 b25 b26) (hk : KI j6 b18 b19 b20 b21 b22) (e0 : v1 = (F_x11_render u0 u1 u2 i0 i1 i2 i3 i6 i7 i8 i9 i10 i17 i18 i19 i20 i21 i22 i23 i24 i35 a1 a7 a8 a13 a18 a19 a20 a21 a22 a23 a25 r9n r9c og ogn ogc).1) (e1 : ni0 = (F_x11_render u0 u1 u2 i0 i1 i2 i3 i6 i7 i8 i9 i10 i17 i18 i19 i20 i21 i22 i23 i24 i35 a1 a7 a8 a13 a18 a19 a20 a21 a22 a23 a25 r9n r9c og ogn ogc).2.1) (e2 : ni10 = (F_x11_render u0 u1 u2 i0 i1 i2 i3 i6 i7 i8 i9 i10 i17 i18 i19 i20 i21 i22 i23 i24 i35 a1 a7 a8 a13 a18 a19 a20 a21 a22 a23 a25 r9n r9c og ogn ogc).2.2.1) (e3 : ni17 = (F_x11_render u0 u1 u2 i0 i1 i2 i3 i6 i7 i8 i9 i10 i17 i18 i19 i20 i21 i22 i23 i24 i35 a1 a7 a8 a13 a18 a19 a20 a21 a22 a23 a25 r9n r9c og ogn ogc).2.2.2.1) (e4 : ni18 = (F_x11_render u0 u1 u2 i0 i1 i2 i3 i6 i7 i8 i9 i10 i17 i18 i19 i20 i21 i22 i23 i24 i35 a1 a7 a8 a13 a18 a19 a20 a21 a22 a23 a25 r9n r9c og ogn ogc).2.2.2.2.1) (e5 : ni19 = (F_x11_render u0 u1 u2 i0 i1 i2 i3 i6 i7 i8 i9 i10 i17 i18 i19 i20 i21 i22 i23 i24 i35 a1 a7 a8 a13 a18 a19 a20 a21 a22 a23 a25 r9n r9c og ogn ogc).2.2.2.2.2.1) (e6 : ni20 = (F_x11_render u0 u1 u2 i0 i1 i2 i3 i6 i7 i8 i9 i10 i17 i18 i19 i20 i21 i22 i23 i24 i35 a1 a7 a8 a13 a18 a19 a20 a21 a22 a23 a25 r9n r9c og ogn ogc).2.2.2.2.2.2.1) (e7 : ni21 = (F_x11_render u0 u1 u2 i0 i1 i2 i3 i6 i7 i8 i9 i10 i17 i18 i19 i20 i21 i22 i23 i24 i35 a1 a7 a8 a13 a18 a19 a20 a21 a22 a23 a25 r9n r9c og ogn ogc).2.2.2.2.2.2.2.1) (e8 : ni22 = (F_x11_render u0 u1 u2 i0 i1 i2 i3 i6 i7 i8 i9 i10 i17 i18 i19 i20 i21 i22 i23 i24 i35 a1 a7 a8 a13 a18 a19 a20 a21 a22 a23 a25 r9n r9c og ogn ogc).2.2.2.2.2.2.2.2.1) (e9 : ni23 = (F_x11_render u0 u1 u2 i0 i1 i2 i3 i6 i7 i8 i9 i10 i17 i18 i19 i20 i21 i22 i23 i24 i35 a1 a7 a8 a13 a18 a19 a20 a21 a22 a23 a25 r9n r9c og ogn ogc).2.2.2.2.2.2.2.2.2.1) (e10 : ni24 = (F_x11_render u0 u1 u2 i0 i1 i2 i3 i6 i7 i8 i9 i10 i17 i18 i19 i20 i21 i22 i23 i24 i35 a1 a7 a8 a13 a18 a19 a20 a21 a22 a23 a25 r9n r9c og ogn ogc).2.2.2.2.2.2.2.2.2.2.1) (e11 : ni35 = (F_x11_render u0 u1 u2 i0 i1 i2 i3 i6 i7 i8 i9 i10 i17 i18 i19 i20 i21 i22 i23 i24 i35 a1 a7 a8 a13 a18 a19 a20 a21 a22 a23 a25 r9n r9c og ogn ogc).2.2.2.2.2.2.2.2.2.2.2.1) (e12 : nog = (F_x11_render u0 u1 u2 i0 i1 i2 i3 i6 i7 i8 i9 i10 i17 i18 i19 i20 i21 i22 i23 i24 i35 a1 a7 a8 a13 a18 a19 a20 a21 a22 a23 a25 r9n r9c og ogn ogc).2.2.2.2.2.2.2.2.2.2.2.2.1) (e13 : nogn = (F_x11_render u0 u1 u2 i0 i1 i2 i3 i6 i7 i8 i9 i10 i17 i18 i19 i20 i21 i22 i23 i24 i35 a1 a7 a8 a13 a18 a19 a20 a21 a22 a23 a25 r9n r9c og ogn ogc).2.2.2.2.2.2.2.2.2.2.2.2.2.1) (e14 : nogc = (F_x11_render u0 u1 u2 i0 i1 i2 i3 i6 i7 i8 i9 i10 i17 i18 i19 i20 i21 i22 i23 i24 i35 a1 a7 a8 a13 a18 a19 a20 a21 a22 a23 a25 r9n r9c og ogn ogc).2.2.2.2.2.2.2.2.2.2.2.2.2.2) (f0 : v2 = (F_m12_render u0 u1 u2 j0 j1 j2 j3 j4 j5 j6 j7 b1 b2 b4 b5 b8 b12 b15 b16 b17 b18 b19 b20 b21 b33 b34 b36 b37 b38 b39 b40 b41 b42 b43 b46).1) (f1 : nj0 = (F_m12_render u0 u1 u2 j0 j1 j2 j3 j4 j5 j6 j7 b1 b2 b4 b5 b8 b12 b15 b16 b17 b18 b19 b20 b21 b33 b34 b36 b37 b38 b39 b40 b41 b42 b43 b46).2.1) (f2 : nj7 = (F_m12_render u0 u1 u2 j0 j1 j2 j3 j4 j5 j6 j7 b1 b2 b4 b5 b8 b12 b15 b16 b17 b18 b19 b20 b21 b33 b34 b36 b37 b38 b39 b40 b41 b42 b43 b46).2.2.1) (f3 : nb33 = (F_m12_render u0 u1 u2 j0 j1 j2 j3 j4 j5 j6 j7 b1 b2 b4 b5 b8 b12 b15 b16 b17 b18 b19 b20 b21 b33 b34 b36 b37 b38 b39 b40 b41 b42 b43 b46).2.2.2.1) (f4 : nb34 = (F_m12_render u0 u1 u2 j0 j1 j2 j3 j4 j5 j6 j7 b1 b2 b4 b5 b8 b12 b15 b16 b17 b18 b19 b20 b21 b33 b34 b36 b37 b38 b39 b40 b41 b42 b43 b46).2.2.2.2.1) (f5 : nb36 = (F_m12_render u0 u1 u2 j0 j1 j2 j3 j4 j5 j6 j7 b1 b2 b4 b5 b8 b12 b15 b16 b17 b18 b19 b20 b21 b33 b34 b36 b37 b38 b39 b40 b41 b42 b43 b46).2.2.2.2.2.1) (f6 : nb37 = (F_m12_render u0 u1 u2 j0 j1 j2 j3 j4 j5 j6 j7 b1 b2 b4 b5 b8 b12 b15 b16 b17 b18 b19 b20 b21 b33 b34 b36 b37 b38 b39 b40 b41 b42 b43 b46).2.2.2.2.2.2.1) (f7 : nb38 = (F_m12_render u0 u1 u2 j0 j1 j2 j3 j4 j5 j6 j7 b1 b2 b4 b5 b8 b12 b15 b16 b17 b18 b19 b20 b21 b33 b34 b36 b37 b38 b39 b40 b41 b42 b43 b46).2.2.2.2.2.2.2.1) (f8 : nb39 = (F_m12_render u0 u1 u2 j0 j1 j2 j3 j4 j5 j6 j7 b1 b2 b4 b5 b8 b12 b15 b16 b17 b18 b19 b20 b21 b33 b34 b36 b37 b38 b39 b40 b41 b42 b43 b46).2.2.2.2.2.2.2.2.1) (f9 : nb40 = (F_m12_render u0 u1 u2 j0 j1 j2 j3 j4 j5 j6 j7 b1 b2 b4 b5 b8 b12 b15 b16 b17 b18 b19 b20 b21 b33 b34 b36 b37 b38 b39 b40 b41 b42 b43 b46).2.2.2.2.2.2.2.2.2.1) (f10 : nb41 = (F_m12_render u0 u1 u2 j0 j1 j2 j3 j4 j5 j6 j7 b1 b2 b4 b5 b8 b12 b15 b16 b17 b18 b19 b20 b21 b33 b34 b36 b37 b38 b39 b40 b41 b42 b43 b46).2.2.2.2.2.2.2.2.2.2.1) (f11 : nb42 = (F_m12_render u0 u1 u2 j0 j1 j2 j3 j4 j5 j6 j7 b1 b2 b4 b5 b8 b12 b15 b16 b17 b18 b19 b20 b21 b33 b34 b36 b37 b38 b39 b40 b41 b42 b43 b46).2.2.2.2.2.2.2.2.2.2.2.1) (f12 : nb43 = (F_m12_render u0 u1 u2 j0 j1 j2 j3 j4 j5 j6 j7 b1 b2 b4 b5 b8 b12 b15 b16 b17 b18 b19 b20 b21 b33 b34 b36 b37 b38 b39 b40 b41 b42 b43 b46).2.2.2.2.2.2.2.2.2.2.2.2.1) (f13 : nb46 = (F_m12_render u0 u1 u2 j0 j1 j2 j3 j4 j5 j6 j7 b1 b2 b4 b5 b8 b12 b15 b16 b17 b18 b19 b20 b21 b33 b34 b36 b37 b38 b39 b40 b41 b42 b43 b46).2.2.2.2.2.2.2.2.2.2.2.2.2) : v1.toInt = v2.toInt ∧ R1 ni0 i1 i2 i3 i6 i7 i8 i9 ni10 a1 a4 a5 a7 a8 a13 a18 a19 a20 a21 a22 a23 a24 a25 a26 r9n r9c rtn rtc nj0 j1 j2 j3 j4 j5 j6 nj7 b1 b2 b3 b4 b5 b8 b12 b13 b14 b15 b16 b17 b18 b19 b20 b21 b22 b23 b24 b25 b26 := by
  obtain ⟨⟨q0, q1, q2, q3, q6, q7, q9, q10⟩, ⟨g0, g1, g2, g3, g6, g7, g9, g10⟩, T, W, V, R, P, D, L, M1, C1⟩ := h
  subst q0 q1 q2 q3 q6 q7 q9 q10
  have r := R_render (u0 := u0) (u1 := u1) (u2 := u2) (i1 := i1) (i17 := i17) (i18 := i18) (i19 := i19) (i20 := i20) (i21 := i21) (i22 := i22) (i23 := i23) (i24 := i24) (i35 := i35) (a8 := a8) (og := og) (ogn := ogn) (ogc := ogc) (b33 := b33) (b34 := b34) (b36 := b36) (b37 := b37) (b38 := b38) (b39 := b39) (b40 := b40) (b41 := b41) (b42 := b42) (b43 := b43) (b46 := b46) g0 g10 g2 g3 g7 g6 g9 T V P D L hk R
  replace e0 := e0.symm
  subst e0
  replace e1 := e1.symm
  subst e1
  replace e2 := e2.symm
  subst e2
  replace e3 := e3.symm
  subst e3
  replace e4 := e4.symm
  subst e4
  replace e5 := e5.symm
  subst e5
  replace e6 := e6.symm
  subst e6
  replace e7 := e7.symm
  subst e7
  replace e8 := e8.symm
  subst e8
  replace e9 := e9.symm
  subst e9
  replace e10 := e10.symm
  subst e10
  replace e11 := e11.symm
  subst e11
  replace e12 := e12.symm
  subst e12
  replace e13 := e13.symm
  subst e13
  replace e14 := e14.symm
  subst e14
  replace f0 := f0.symm
  subst f0
  replace f1 := f1.symm
  subst f1
  replace f2 := f2.symm
  subst f2
  replace f3 := f3.symm
  subst f3
  replace f4 := f4.symm
  subst f4
  replace f5 := f5.symm
  subst f5
  replace f6 := f6.symm
  subst f6
  replace f7 := f7.symm
  subst f7
  replace f8 := f8.symm
  subst f8
  replace f9 := f9.symm
  subst f9
  replace f10 := f10.symm
  subst f10
  replace f11 := f11.symm
  subst f11
  replace f12 := f12.symm
  subst f12
  replace f13 := f13.symm
  subst f13
  exact ⟨by rw [r.1], ⟨r.2.1, rfl, rfl, rfl, rfl, rfl, rfl, r.2.2.1⟩, ⟨r.2.2.2.1, g1, g2, g3, g6, g7, g9, r.2.2.2.2.1⟩, T, W, V, R, P, D, L, M1, C1⟩
theorem R1_voids {i0 i1 i2 i3 i6 i7 i8 i9 i10 j0 j1 j2 j3 j4 j5 j6 j7 i4 i11 j18 u0 v1 ni8 ni11 v2 nj18 : Int32} {a1 a4 a5 a7 a8 a13 a18 a19 a20 a21 a22 a23 a24 a25 a26 b1 b2 b3 b4 b5 b8 b12 b13 b14 b15 b16 b17 b18 b19 b20 b21 b22 b23 b24 b25 b26 a15 a29 a30 a31 a32 b10 b11 b33 b34 b35 b36 b37 b38 b39 b40 b41 b42 b43 b44 b45 b46 b47 b48 b49 b50 b51 b52 b53 na29 na30 na31 na32 nb12 nb35 nb43 nb44 nb45 nb46 nb47 nb51 nb52 nb53 : Nat → Int32} {r9n rtn : Nat → Nat} {r9c rtc og nog : Nat → Nat → Int32} {ogn : Nat → Nat → Nat} {ogc : Nat → Nat → Nat → Int32} (h : R1 i0 i1 i2 i3 i6 i7 i8 i9 i10 a1 a4 a5 a7 a8 a13 a18 a19 a20 a21 a22 a23 a24 a25 a26 r9n r9c rtn rtc j0 j1 j2 j3 j4 j5 j6 j7 b1 b2 b3 b4 b5 b8 b12 b13 b14 b15 b16 b17 b18 b19 b20 b21 b22 b23 b24 b25 b26) (hh : R2 i3 i4 i6 i7 i10 i11 j18 a15 a29 a30 a31 a32 b2 b8 b10 b11 b12 b33 b34 b35 b36 b37 b38 b39 b40 b41 b42 b43 b44 b45 b46 b47 b48 b49 b50 b51 b52 b53 og ogn ogc) (hc : j18.toInt + cntF b35 ≤ 1022) (e0 : v1 = (F_x11_voids u0 i1 i7 i8 i10 i11 a29 a30 a31 a32 og).1) (e1 : ni8 = (F_x11_voids u0 i1 i7 i8 i10 i11 a29 a30 a31 a32 og).2.1) (e2 : ni11 = (F_x11_voids u0 i1 i7 i8 i10 i11 a29 a30 a31 a32 og).2.2.1) (e3 : na29 = (F_x11_voids u0 i1 i7 i8 i10 i11 a29 a30 a31 a32 og).2.2.2.1) (e4 : na30 = (F_x11_voids u0 i1 i7 i8 i10 i11 a29 a30 a31 a32 og).2.2.2.2.1) (e5 : na31 = (F_x11_voids u0 i1 i7 i8 i10 i11 a29 a30 a31 a32 og).2.2.2.2.2.1) (e6 : na32 = (F_x11_voids u0 i1 i7 i8 i10 i11 a29 a30 a31 a32 og).2.2.2.2.2.2.1) (e7 : nog = (F_x11_voids u0 i1 i7 i8 i10 i11 a29 a30 a31 a32 og).2.2.2.2.2.2.2) (f0 : v2 = (F_m12_voids u0 j1 j5 j7 j18 b12 b34 b35 b43 b44 b45 b46 b47 b48 b51 b52 b53).1) (f1 : nj18 = (F_m12_voids u0 j1 j5 j7 j18 b12 b34 b35 b43 b44 b45 b46 b47 b48 b51 b52 b53).2.1) (f2 : nb12 = (F_m12_voids u0 j1 j5 j7 j18 b12 b34 b35 b43 b44 b45 b46 b47 b48 b51 b52 b53).2.2.1) (f3 : nb35 = (F_m12_voids u0 j1 j5 j7 j18 b12 b34 b35 b43 b44 b45 b46 b47 b48 b51 b52 b53).2.2.2.1) (f4 : nb43 = (F_m12_voids u0 j1 j5 j7 j18 b12 b34 b35 b43 b44 b45 b46 b47 b48 b51 b52 b53).2.2.2.2.1) (f5 : nb44 = (F_m12_voids u0 j1 j5 j7 j18 b12 b34 b35 b43 b44 b45 b46 b47 b48 b51 b52 b53).2.2.2.2.2.1) (f6 : nb45 = (F_m12_voids u0 j1 j5 j7 j18 b12 b34 b35 b43 b44 b45 b46 b47 b48 b51 b52 b53).2.2.2.2.2.2.1) (f7 : nb46 = (F_m12_voids u0 j1 j5 j7 j18 b12 b34 b35 b43 b44 b45 b46 b47 b48 b51 b52 b53).2.2.2.2.2.2.2.1) (f8 : nb47 = (F_m12_voids u0 j1 j5 j7 j18 b12 b34 b35 b43 b44 b45 b46 b47 b48 b51 b52 b53).2.2.2.2.2.2.2.2.1) (f9 : nb51 = (F_m12_voids u0 j1 j5 j7 j18 b12 b34 b35 b43 b44 b45 b46 b47 b48 b51 b52 b53).2.2.2.2.2.2.2.2.2.1) (f10 : nb52 = (F_m12_voids u0 j1 j5 j7 j18 b12 b34 b35 b43 b44 b45 b46 b47 b48 b51 b52 b53).2.2.2.2.2.2.2.2.2.2.1) (f11 : nb53 = (F_m12_voids u0 j1 j5 j7 j18 b12 b34 b35 b43 b44 b45 b46 b47 b48 b51 b52 b53).2.2.2.2.2.2.2.2.2.2.2) : v1.toInt = v2.toInt ∧ R1 i0 i1 i2 i3 i6 i7 ni8 i9 i10 a1 a4 a5 a7 a8 a13 a18 a19 a20 a21 a22 a23 a24 a25 a26 r9n r9c rtn rtc j0 j1 j2 j3 j4 j5 j6 j7 b1 b2 b3 b4 b5 b8 nb12 b13 b14 b15 b16 b17 b18 b19 b20 b21 b22 b23 b24 b25 b26 := by
  obtain ⟨⟨q0, q1, q2, q3, q6, q7, q9, q10⟩, ⟨g0, g1, g2, g3, g6, g7, g9, g10⟩, T, W, V, R, P, D, L, M1, C1⟩ := h
  subst q0 q1 q2 q3 q6 q7 q9 q10
  obtain ⟨M, C, S, K, V2, Cs, Sd, X, E, E2⟩ := hh
  have r := R_voids (u0 := u0) (i1 := i1) g10 g3.2 g7 D S K V2 Sd X E E2 (fun q hq => (C q hq).1.2.1) hc
  replace e0 := e0.symm
  subst e0
  replace e1 := e1.symm
  subst e1
  replace e2 := e2.symm
  subst e2
  replace e3 := e3.symm
  subst e3
  replace e4 := e4.symm
  subst e4
  replace e5 := e5.symm
  subst e5
  replace e6 := e6.symm
  subst e6
  replace e7 := e7.symm
  subst e7
  replace f0 := f0.symm
  subst f0
  replace f1 := f1.symm
  subst f1
  replace f2 := f2.symm
  subst f2
  replace f3 := f3.symm
  subst f3
  replace f4 := f4.symm
  subst f4
  replace f5 := f5.symm
  subst f5
  replace f6 := f6.symm
  subst f6
  replace f7 := f7.symm
  subst f7
  replace f8 := f8.symm
  subst f8
  replace f9 := f9.symm
  subst f9
  replace f10 := f10.symm
  subst f10
  replace f11 := f11.symm
  subst f11
  exact ⟨by rw [r.1], ⟨rfl, rfl, rfl, rfl, rfl, rfl, rfl, rfl⟩, ⟨g0, g1, g2, g3, g6, g7, g9, g10⟩, T, W, V, R, P, r.2.1, L, M1, C1⟩
theorem R1_check {i0 i1 i2 i3 i6 i7 i8 i9 i10 j0 j1 j2 j3 j4 j5 j6 j7 i4 i11 j18 u0 v1 ni0 v2 nj0 : Int32} {a1 a4 a5 a7 a8 a13 a18 a19 a20 a21 a22 a23 a24 a25 a26 b1 b2 b3 b4 b5 b8 b12 b13 b14 b15 b16 b17 b18 b19 b20 b21 b22 b23 b24 b25 b26 a15 a29 a30 a31 a32 b10 b11 b33 b34 b35 b36 b37 b38 b39 b40 b41 b42 b43 b44 b45 b46 b47 b48 b49 b50 b51 b52 b53 : Nat → Int32} {r9n rtn : Nat → Nat} {r9c rtc og : Nat → Nat → Int32} {ogn : Nat → Nat → Nat} {ogc : Nat → Nat → Nat → Int32} (h : R1 i0 i1 i2 i3 i6 i7 i8 i9 i10 a1 a4 a5 a7 a8 a13 a18 a19 a20 a21 a22 a23 a24 a25 a26 r9n r9c rtn rtc j0 j1 j2 j3 j4 j5 j6 j7 b1 b2 b3 b4 b5 b8 b12 b13 b14 b15 b16 b17 b18 b19 b20 b21 b22 b23 b24 b25 b26) (hh : R2 i3 i4 i6 i7 i10 i11 j18 a15 a29 a30 a31 a32 b2 b8 b10 b11 b12 b33 b34 b35 b36 b37 b38 b39 b40 b41 b42 b43 b44 b45 b46 b47 b48 b49 b50 b51 b52 b53 og ogn ogc) (e0 : v1 = (F_x11_check u0 i0 i3 a1 a29).1) (e1 : ni0 = (F_x11_check u0 i0 i3 a1 a29).2) (f0 : v2 = (F_m12_check u0 j0 j2 j7 b1 b34 b35).1) (f1 : nj0 = (F_m12_check u0 j0 j2 j7 b1 b34 b35).2) : v1.toInt = v2.toInt ∧ R1 ni0 i1 i2 i3 i6 i7 i8 i9 i10 a1 a4 a5 a7 a8 a13 a18 a19 a20 a21 a22 a23 a24 a25 a26 r9n r9c rtn rtc nj0 j1 j2 j3 j4 j5 j6 j7 b1 b2 b3 b4 b5 b8 b12 b13 b14 b15 b16 b17 b18 b19 b20 b21 b22 b23 b24 b25 b26 := by
  obtain ⟨⟨q0, q1, q2, q3, q6, q7, q9, q10⟩, ⟨g0, g1, g2, g3, g6, g7, g9, g10⟩, T, W, V, R, P, D, L, M1, C1⟩ := h
  subst q0 q1 q2 q3 q6 q7 q9 q10
  obtain ⟨M, C, S, K, V2, Cs, Sd, X, E, E2⟩ := hh
  have r := R_check (u0 := u0) (i0 := i0) (a1 := a1) (b1 := b1) g3 g10 T X
  replace e0 := e0.symm
  subst e0
  replace e1 := e1.symm
  subst e1
  replace f0 := f0.symm
  subst f0
  replace f1 := f1.symm
  subst f1
  refine ⟨by rw [r.1], ⟨by rw [r.1], rfl, rfl, rfl, rfl, rfl, rfl, rfl⟩, ⟨?_, g1, g2, g3, g6, g7, g9, g10⟩, T, W, V, R, P, D, L, M1, C1⟩
  rcases r.2 with z | z
  · rw [z, c0]; omega
  · rw [z]; exact g0
