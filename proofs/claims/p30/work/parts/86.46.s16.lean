/-! a new RENDERING: what both sides have of it -/
section NEWP
variable {r : Nat} {i3 i10 j10 : Int32} {og og' : Nat → Nat → Int32} {ogn ogn' : Nat → Nat → Nat} {ogc ogc' : Nat → Nat → Nat → Int32} {b33 b34 b35 b36 b37 b38 b39 b40 b41 b42 b43 b44 b45 b46 b47 b48 b49 b50 c33 c34 c36 c37 c38 c39 c40 c41 c42 c43 c46 : Nat → Int32}
theorem NEW_RNC (hn : NEWR r i3 og ogn ogc b33 b34 b36 b37 b38 b39 b40 b41 b42 b43 b46 og' ogn' ogc' c33 c34 c36 c37 c38 c39 c40 c41 c42 c43 c46) (h : RNC i10 og ogn ogc b33 b34 b36 b37 b38 b39 b40 b41 b42) (hi : i10.toInt = (r : Int)) (hj : j10.toInt = (r : Int) + 1) : RNC j10 og' ogn' ogc' c33 c34 c36 c37 c38 c39 c40 c41 c42 := by
  obtain ⟨u0, u1, c, i1, u2, sz, tn, N, tf, gw, gu, ⟨o1, o2, o3⟩, ⟨e33, e34, e36, e37, e38, e40, -, -⟩, -, ⟨s1, s2⟩, ⟨n1, n2, n3⟩, k1, k2, k3, k4⟩ := hn
  subst o1 o2 o3 e33 e34 e36 e37 e38 e40
  intro q hq
  by_cases e : q = r
  · rw [e]
    refine ⟨⟨?_, ?_, ?_, ?_⟩, ⟨?_, ?_, fun i hi => ?_⟩, ⟨?_, ?_, ?_, fun i hi => ?_⟩⟩
    · rw [ogPut_f (by decide), upd_s]; rfl
    · rw [ogPut_f (by decide), upd_s]; rfl
    · rw [ogPut_f (by decide), upd_s]; rfl
    · rw [ogPut_f (by decide), upd_s]; rfl
    · rw [ognPut_3, upd_s]; exact s1
    · rw [ognPut_3]; exact s2
    · rw [ognPut_3] at hi
      rw [ogcPut_3]; exact (k2 i hi).symm
    · rw [ognPut_4, upd_s]; exact n1
    · rw [ognPut_4]; exact n2
    · rw [ognPut_4]; exact n3
    · rw [ognPut_4] at hi
      obtain ⟨⟨f1, f2⟩, f3, f4⟩ := k4 i hi
      rw [ogcPut_4, ogcPut_5, f1, f2]
      exact ⟨rfl, rfl, f3, f4⟩
  · obtain ⟨⟨g0, g1, g2, g6⟩, ⟨t1, t2, t3⟩, ⟨w1, w2, w3, w4⟩⟩ := h q (by omega)
    refine ⟨⟨?_, ?_, ?_, ?_⟩, ⟨?_, ?_, fun i hi => ?_⟩, ⟨?_, ?_, ?_, fun i hi => ?_⟩⟩
    · rw [ogPut_ne (by decide) e, upd_n e]; exact g0
    · rw [ogPut_ne (by decide) e, upd_n e]; exact g1
    · rw [ogPut_ne (by decide) e, upd_n e]; exact g2
    · rw [ogPut_ne (by decide) e, upd_n e]; exact g6
    · rw [ogPut_nj e, upd_n e]; exact t1
    · rw [ogPut_nj e]; exact t2
    · rw [ogPut_nj e] at hi
      rw [ogcPut_nj e, k1 _ (by omega)]; exact t3 i hi
    · rw [ogPut_nj e, upd_n e]; exact w1
    · rw [ogPut_nj e]; exact w2
    · rw [ogPut_nj e]; exact w3
    · rw [ogPut_nj e] at hi
      obtain ⟨f1, f2⟩ := k3 (12 * q + i) (by omega)
      rw [ogcPut_nj e, ogcPut_nj e, f1, f2]; exact w4 i hi
theorem NEW_RNS (hn : NEWR r i3 og ogn ogc b33 b34 b36 b37 b38 b39 b40 b41 b42 b43 b46 og' ogn' ogc' c33 c34 c36 c37 c38 c39 c40 c41 c42 c43 c46) (h : RNS i3 i10 og b34 b35 b43) (hi : i10.toInt = (r : Int)) (hj : j10.toInt = (r : Int) + 1) (hr : r < 200) : RNS i3 j10 og' c34 b35 c43 := by
  obtain ⟨u0, u1, c, i1, u2, sz, tn, N, tf, gw, gu, ⟨o1, -, -⟩, ⟨-, e34, -, -, -, -, e43, -⟩, hv, -⟩ := hn
  subst o1 e34 e43
  have z := h.2 r (by omega) hr
  refine ⟨fun q hq => ?_, fun q hq hq2 => h.2 q (by omega) hq2⟩
  by_cases e : q = r
  · rw [e, ogPut_f (by decide), ogPut_f (by decide), upd_s, upd_s]
    refine ⟨eq_of_toInt (by rw [z]; rfl), rfl, by omega, hv, fun _ => sm1⟩
  · rw [ogPut_ne (by decide) e, ogPut_ne (by decide) e, upd_n e, upd_n e]
    exact h.1 q (by omega)
theorem NEW_KEP (hn : NEWR r i3 og ogn ogc b33 b34 b36 b37 b38 b39 b40 b41 b42 b43 b46 og' ogn' ogc' c33 c34 c36 c37 c38 c39 c40 c41 c42 c43 c46) (h : KEP i10 og b44 b45 b46) (hi : i10.toInt = (r : Int)) (hj : j10.toInt = (r : Int) + 1) : KEP j10 og' b44 b45 c46 := by
  obtain ⟨u0, u1, c, i1, u2, sz, tn, N, tf, gw, gu, ⟨o1, -, -⟩, ⟨-, -, -, -, -, -, -, e46⟩, -⟩ := hn
  subst o1 e46
  intro k hk
  by_cases e1 : k = 2 * r + 1
  · rw [e1, upd_s, ogPut_s1 (by decide)]
    exact Or.inl ⟨sm1, by decide⟩
  · by_cases e0 : k = 2 * r
    · rw [e0, upd_n (by omega), upd_s, ogPut_s0 (by decide)]
      exact Or.inl ⟨sm1, by decide⟩
    · rw [upd_n e1, upd_n e0, ogPut_ns (by decide) (by omega), ogPut_ns (by decide) (by omega), ogPut_ns (by decide) (by omega)]
      exact h k (by omega)
theorem NEW_VOT (hn : NEWR r i3 og ogn ogc b33 b34 b36 b37 b38 b39 b40 b41 b42 b43 b46 og' ogn' ogc' c33 c34 c36 c37 c38 c39 c40 c41 c42 c43 c46) (h : VOT i10 og b49 b50) (hi : i10.toInt = (r : Int)) (hj : j10.toInt = (r : Int) + 1) (hr : r < 200) : VOT j10 og' b49 b50 := by
  obtain ⟨u0, u1, c, i1, u2, sz, tn, N, tf, gw, gu, ⟨o1, -, -⟩, -⟩ := hn
  subst o1
  refine ⟨fun k hk => ?_, fun k hk hk4 => h.2 k (by omega) hk4⟩
  by_cases e1 : k = 2 * r + 1
  · obtain ⟨z1, z2⟩ := h.2 (2 * r + 1) (by omega) (by omega)
    rw [e1, ogPut_s1 (by decide), ogPut_s1 (by decide), z1, z2]
    exact ⟨rfl, rfl⟩
  · by_cases e0 : k = 2 * r
    · obtain ⟨z1, z2⟩ := h.2 (2 * r) (by omega) (by omega)
      rw [e0, ogPut_s0 (by decide), ogPut_s0 (by decide), z1, z2]
      exact ⟨rfl, rfl⟩
    · rw [ogPut_ns (by decide) (by omega), ogPut_ns (by decide) (by omega)]
      exact h.1 k (by omega)
theorem NEW_CST {i6 i7 : Int32} {b2 b8 b10 b11 : Nat → Int32} (hn : NEWR r i3 og ogn ogc b33 b34 b36 b37 b38 b39 b40 b41 b42 b43 b46 og' ogn' ogc' c33 c34 c36 c37 c38 c39 c40 c41 c42 c43 c46) (h : CST i6 i7 i10 b2 b8 b10 b11 b34 b49) (hT : VOT i10 og b49 b50) (hi : i10.toInt = (r : Int)) (hj : j10.toInt = (r : Int) + 1) (hr : r < 200) : CST i6 i7 j10 b2 b8 b10 b11 c34 b49 := by
  obtain ⟨u0, u1, c, i1, u2, sz, tn, N, tf, gw, gu, -, ⟨-, e34, -⟩, -⟩ := hn
  subst e34
  intro q s hq hs
  by_cases e : q = r
  · rw [e, (hT.2 (2 * r) (by omega) (by omega)).1, (hT.2 (2 * r + 1) (by omega) (by omega)).1, qI_0]
    exact ⟨fun z => (by cases z), fun z => (by cases z)⟩
  · rw [upd_n e]
    exact h q s (by omega) hs
theorem NEW_STD {b12 : Nat → Int32} (hn : NEWR r i3 og ogn ogc b33 b34 b36 b37 b38 b39 b40 b41 b42 b43 b46 og' ogn' ogc' c33 c34 c36 c37 c38 c39 c40 c41 c42 c43 c46) (h : STD i10 b12 b35 b46 b47 b48 b49 b50) (hS : RNS i3 i10 og b34 b35 b43) (hi : i10.toInt = (r : Int)) (hj : j10.toInt = (r : Int) + 1) (hr : r < 200) : STD j10 b12 b35 c46 b47 b48 b49 b50 := by
  obtain ⟨u0, u1, c, i1, u2, sz, tn, N, tf, gw, gu, -, ⟨-, -, -, -, -, -, -, e46⟩, -⟩ := hn
  subst e46
  intro q hq
  by_cases e : q = r
  · rw [e]
    have z := hS.2 r (by omega) hr
    exact ⟨fun w => by omega, fun w => by omega⟩
  · rw [upd_n (show 2 * q ≠ 2 * r + 1 by omega), upd_n (show 2 * q ≠ 2 * r by omega), upd_n (show 2 * q + 1 ≠ 2 * r + 1 by omega), upd_n (show 2 * q + 1 ≠ 2 * r by omega)]
    exact h q (by omega)
theorem NEW_FXD {a29 : Nat → Int32} (hn : NEWR r i3 og ogn ogc b33 b34 b36 b37 b38 b39 b40 b41 b42 b43 b46 og' ogn' ogc' c33 c34 c36 c37 c38 c39 c40 c41 c42 c43 c46) (h : FXD i10 a29 b34 b35) (hS : RNS i3 i10 og b34 b35 b43) (hi : i10.toInt = (r : Int)) (hj : j10.toInt = (r : Int) + 1) (hr : r < 200) : FXD j10 a29 c34 b35 := by
  obtain ⟨u0, u1, c, i1, u2, sz, tn, N, tf, gw, gu, -, ⟨-, e34, -⟩, -⟩ := hn
  subst e34
  have z := hS.2 r (by omega) hr
  intro v hv
  rcases h v hv with ⟨g1, g2⟩ | ⟨q, g1, g2, g3, g4, g5⟩
  · refine Or.inl ⟨g1, fun p hp hp2 => ?_⟩
    by_cases e : p = r
    · rw [e]; omega
    · rw [upd_n e] at hp2
      exact g2 p (by omega) hp2
  · refine Or.inr ⟨q, by omega, g2, by rw [upd_n (by omega)]; exact g3, g4, fun p hp hp2 hp3 => ?_⟩
    by_cases e : p = r
    · rw [e] at hp3; omega
    · rw [upd_n e] at hp2
      exact g5 p (by omega) hp2 hp3
theorem TEL_i10 {i11 j18 : Int32} {a30 a31 a32 b51 b52 b53 : Nat → Int32} (h : TEL i10 i11 j18 a30 a31 a32 b51 b52 b53) (hj : i10.toInt ≤ j10.toInt) : TEL j10 i11 j18 a30 a31 a32 b51 b52 b53 := by
  obtain ⟨h1, h2, h3⟩ := h
  refine ⟨h1, h2, fun t ht => ?_⟩
  obtain ⟨q1, q2, q3, q4⟩ := h3 t ht
  exact ⟨q1, q2, q3, by omega⟩
end NEWP
/-- a verse, a company, a scholar more: who cast votes stays -/
theorem CO_mono {i6 j6 v c : Int32} {b2 b8 c2 c8 : Nat → Int32} (h : CO i6 b2 b8 v c) (h6 : i6.toInt ≤ j6.toInt) (h2 : c2 v.toNatClampNeg = b2 v.toNatClampNeg) (h8 : ∀ d : Nat, (d : Int) < i6.toInt → c8 d = b8 d) : CO j6 c2 c8 v c := by
  obtain ⟨⟨g1, g2⟩, g3, g4⟩ := h
  have e : c.toNatClampNeg = c.toInt.toNat := rfl
  refine ⟨⟨g1, by omega⟩, ?_, fun d hd => ?_⟩
  · rw [h2, h8 _ (by rw [e]; omega)]; exact g3
  · rw [h2, h8 d (by omega)]; exact g4 d hd
theorem CST_mono {i3 i6 i7 i10 j6 j7 : Int32} {og : Nat → Nat → Int32} {b2 b8 b10 b11 b34 b35 b43 b49 c2 c8 c10 c11 : Nat → Int32} (h : CST i6 i7 i10 b2 b8 b10 b11 b34 b49) (hS : RNS i3 i10 og b34 b35 b43) (h6 : i6.toInt ≤ j6.toInt) (h7 : i7.toInt ≤ j7.toInt) (h2 : ∀ v : Nat, (v : Int) < i3.toInt → c2 v = b2 v) (h8 : ∀ d : Nat, (d : Int) < i6.toInt → c8 d = b8 d) (hs : ∀ s : Nat, (s : Int) < i7.toInt → c10 s = b10 s ∧ c11 s = b11 s) : CST j6 j7 i10 c2 c8 c10 c11 b34 b49 := by
  intro r s hr hs24
  obtain ⟨g1, g2⟩ := h r s hr hs24
  obtain ⟨-, -, -, v1, -⟩ := hS.1 r hr
  have e : (b34 r).toNatClampNeg = (b34 r).toInt.toNat := rfl
  refine ⟨fun q => ?_, fun q => ?_⟩
  · obtain ⟨f1, f2⟩ := g1 q
    rw [(hs s f1).1]
    exact ⟨by omega, CO_mono f2 h6 (h2 _ (by rw [e]; omega)) h8⟩
  · obtain ⟨f1, f2⟩ := g2 q
    rw [(hs s f1).2]
    exact ⟨by omega, f2⟩
theorem MEM_mono {i4 i6 i7 j6 : Int32} {a15 b10 b11 : Nat → Int32} (h : MEM i4 i6 i7 a15 b10 b11) (h6 : i6.toInt ≤ j6.toInt) : MEM i4 j6 i7 a15 b10 b11 := by
  obtain ⟨h1, h2, h3⟩ := h
  refine ⟨h1, h2, fun s hs => ?_⟩
  have := h3 s hs
  omega
theorem RNS_mono {i3 j3 i10 : Int32} {og : Nat → Nat → Int32} {b34 b35 b43 : Nat → Int32} (h : RNS i3 i10 og b34 b35 b43) (h3 : i3.toInt ≤ j3.toInt) : RNS j3 i10 og b34 b35 b43 := by
  refine ⟨fun r hr => ?_, h.2⟩
  obtain ⟨q1, q2, q3, q4, q5⟩ := h.1 r hr
  exact ⟨q1, q2, q3, by omega, q5⟩
theorem TLV_mono {i3 j3 i11 : Int32} {a30 : Nat → Int32} (h : TLV i3 i11 a30) (h3 : i3.toInt ≤ j3.toInt) : TLV j3 i11 a30 := by
  intro t ht
  have := h t ht
  omega
/-- what a new verse, a new company changes -/
theorem ms_verse {p0 p1 i2 : Int32} {a2 a3 : Nat → Int32} (h : 0 ≤ i2.toInt ∧ i2.toInt ≤ 60) : i2.toInt ≤ (F_m12_verse p0 p1 i2 a2 a3).2.1.toInt ∧ ∀ v : Nat, (v : Int) < i2.toInt → (F_m12_verse p0 p1 i2 a2 a3).2.2.1 v = a2 v := by
  rw [E_m12_verse]
  by_cases w : i2.toInt = 60
  · rw [if_pos w]; exact ⟨Int.le_refl _, fun _ _ => rfl⟩
  · have ej := toInt_add (x := i2) rfl c1 (by omega) (by omega)
    have ei : i2.toNatClampNeg = i2.toInt.toNat := rfl
    rw [if_neg w]
    by_cases w1 : (F_m12_lies p0 (0 : Int32) (7 : Int32)).toInt = 0
    · rw [if_pos w1]; exact ⟨Int.le_refl _, fun _ _ => rfl⟩
    · rw [if_neg w1]
      by_cases w2 : (F_m12_lies p1 (0 : Int32) (40 : Int32)).toInt ≠ 0
      · rw [if_pos w2]
        exact ⟨by show i2.toInt ≤ (i2 + 1).toInt; omega, fun v hv => upd_n (by rw [ei]; omega)⟩
      · rw [if_neg w2]; exact ⟨Int.le_refl _, fun _ _ => rfl⟩
theorem ms_company {p0 p1 i4 : Int32} {a8 : Nat → Int32} (h : 0 ≤ i4.toInt ∧ i4.toInt ≤ 6) : i4.toInt ≤ (F_m12_company p0 p1 i4 a8).2.1.toInt ∧ ∀ v : Nat, (v : Int) < i4.toInt → (F_m12_company p0 p1 i4 a8).2.2 v = a8 v := by
  rw [E_m12_company]
  by_cases w : i4.toInt = 6
  · rw [if_pos w]; exact ⟨Int.le_refl _, fun _ _ => rfl⟩
  · have ej := toInt_add (x := i4) rfl c1 (by omega) (by omega)
    have ei : i4.toNatClampNeg = i4.toInt.toNat := rfl
    rw [if_neg w]
    by_cases w1 : (F_m12_lies p0 (0 : Int32) (255 : Int32)).toInt = 0
    · rw [if_pos w1]; exact ⟨Int.le_refl _, fun _ _ => rfl⟩
    · rw [if_neg w1]
      by_cases w2 : (F_m12_lies p1 (0 : Int32) (99 : Int32)).toInt ≠ 0
      · rw [if_pos w2]
        exact ⟨by show i4.toInt ≤ (i4 + 1).toInt; omega, fun v hv => upd_n (by rw [ei]; omega)⟩
      · rw [if_neg w2]; exact ⟨Int.le_refl _, fun _ _ => rfl⟩
