/-! BREACHES on both sides -/
section BRR
variable {v day i3 i6 i9 cu : Int32} {a7 a8 a13 a18 a19 a20 a21 a22 a23 a24 a25 a26 b2 b3 b4 b8 b15 b16 b17 b18 b19 b20 b21 b22 b23 b24 b25 b26 b5 : Nat → Int32} {r9n rtn : Nat → Nat} {r9c rtc : Nat → Nat → Int32} {c : Nat}
variable {u0 u1 u2 wt i1 i10 i17 i18 i19 i20 i21 i22 i23 i24 i25 i26 i27 i29 m19 m20 : Int32} {a36 a37 b28 b29 b33 b34 b35 b36 b37 b38 b39 b40 b41 b42 b43 : Nat → Int32} {ptn r : Nat} {ptc : Nat → Int32} {og : Nat → Nat → Int32} {ogn : Nat → Nat → Nat} {ogc : Nat → Nat → Nat → Int32}
theorem BRB (hu : u0.toInt = (r : Int)) (hr : (r : Int) < i10.toInt) (hv : 0 ≤ i3.toInt ∧ i3.toInt ≤ 60) (h6 : 0 ≤ i6.toInt ∧ i6.toInt ≤ 6) (h9 : 0 ≤ i9.toInt ∧ i9.toInt ≤ 20) (h10 : 0 ≤ i10.toInt ∧ i10.toInt ≤ 200) (hV : VRS i3 a7 b2) (hM : MES i3 a8 b3) (hP : PPL i6 a13 b8) (hL : LAW i9 a18 a19 a20 a21 a22 a23 a24 a25 b15 b16 b17 b18 b19 b20 b21 b22) (hK : KI i9 b18 b19 b20 b21 b22) (hR : RWS r9n r9c b4 b5) (hC : RCC i9 a21 a26 rtn rtc b23 b24 b25 b26) (hN : RNC i10 og ogn ogc b33 b34 b36 b37 b38 b39 b40 b41 b42) (hS : RNS i3 i10 og b34 b35 b43) :
    ∃ (L : List I2) (y : Int32) (d28 d29 : Nat → Int32) (T : R17q), F_m12_breachesOf u0 wt i1 i6 i9 m19 m20 b2 b3 b4 b8 b15 b16 b17 b18 b19 b20 b21 b22 b23 b24 b25 b26 b28 b29 b34 b38 b39 b40 b41 b42 = (y, (fnd wt.toInt 0 L (m19, m20)).1, (fnd wt.toInt 0 L (m19, m20)).2, d28, d29) ∧ y.toInt = (L.length : Int) ∧ F_x1_seekBreach r i1 wt i3 i6 i9 i25 i26 a7 a8 a13 a18 a19 a20 a21 a22 a23 a24 a25 a26 a36 a37 r9n r9c og ogn ogc rtn rtc ptn ptc = T ∧
      ((∃ x : I2, skp wt.toInt 0 L = some x ∧ T.1 = 1 ∧ T.2.2.2.2.2.2.2.2.2.2.2.2.2.1 = upd (F_x1_tellClause 0 x.1 a36) (2 : Int32).toNatClampNeg x.2) ∨ (skp wt.toInt 0 L = none ∧ T.1 = 0 ∧ (T.2.2.2.2.2.2.2.2.2.2.2.2.1).toInt = (L.length : Int))) := by
  obtain ⟨⟨k0, k1, k2, k3⟩, ⟨p1, p2, p3⟩, ⟨s1, s2, s3, s4⟩⟩ := hN r hr
  obtain ⟨_, _, _, v1, _⟩ := hS.1 r hr
  obtain ⟨w, hw⟩ : ∃ w : Nat, (b34 r).toInt = (w : Int) := ⟨(b34 r).toInt.toNat, by omega⟩
  obtain ⟨z20, q2, ea⟩ := aim_of (u0 := b34 r) (u1 := i1) hw (by omega) hv h6 h9 hV hM hP hL hK hR
  have hm : 16 * i9.toInt = (((16 * i9.toInt.toNat) : Nat) : Int) := by omega
  have htok : ∀ (t : Nat) (x : Int32), x.toInt = (t : Int) → t < ogn 3 r → b39 (((8 : Int32) * u0) + x).toNatClampNeg = ogc 3 r t := by
    intro t x hx ht
    have m1 := toInt_mul sc8 hu rfl (by omega) (by omega)
    have m2 := toInt_add m1 hx (by omega) (by omega)
    rw [nc (p := 8 * r + t) (by omega)]
    exact (p3 t ht).symm
  have htb : ∀ (c t : Nat) (w x : Int32), x.toInt = (t : Int) → t < ogn 3 r → w.toInt = (b22 c).toInt → F_m12_turnsBy u0 x w b40 b41 b42 = if TB ogn ogc b22 r c t = true then 1 else 0 :=
    fun c t w x h1 _ h2 => TB_m hu (by omega) s1 s3 (fun i hi => ⟨(s4 i hi).1, (s4 i hi).2.1⟩) h1 h2
  obtain ⟨y, d28, d29, r1, r2⟩ := mb2 (p0 := u0) (wt := wt) (v := b34 r) (day := i1) (i6 := i6) (b2 := b2) (b3 := b3) (b4 := b4) (b8 := b8) (n := ogn 3 r) (f32 := ogc 3 r) (tb := TB ogn ogc b22 r) (b38 := b38) (b39 := b39) (b40 := b40) (b41 := b41) (b42 := b42) h9 hL hC (by rw [nc hu]; exact p1) p2 htok htb (16 * i9.toInt.toNat) 4001 0 0 0 m19 m20 b28 b29 c0 (by omega) (by omega) (by decide) (by rw [c0]; omega)
  have hQ : F_m12_breachesOf u0 wt i1 i6 i9 m19 m20 b2 b3 b4 b8 b15 b16 b17 b18 b19 b20 b21 b22 b23 b24 b25 b26 b28 b29 b34 b38 b39 b40 b41 b42 = (y, (fnd wt.toInt 0 (brl (mtB b19 b20 b21) (TB ogn ogc b22 r) (ogc 3 r) (ogn 3 r) (WF (hwB 119 (b34 r) i1 i6 i9 b2 b3 b4 b8 b15 b16 b17 b18 b19 b20 b21 b23 b24 b25 b26) (16 * i9.toInt.toNat) 0)) (m19, m20)).1, (fnd wt.toInt 0 (brl (mtB b19 b20 b21) (TB ogn ogc b22 r) (ogc 3 r) (ogn 3 r) (WF (hwB 119 (b34 r) i1 i6 i9 b2 b3 b4 b8 b15 b16 b17 b18 b19 b20 b21 b23 b24 b25 b26) (16 * i9.toInt.toNat) 0)) (m19, m20)).2, d28, d29) := by
    rw [E_m12_breachesOf, nc hu]
    exact r1
  obtain ⟨j25, j26, j27, c37, qtn, qtc, g1, g2⟩ := xg20 (v := b34 r) (day := i1) (i6 := i6) (n2 := ogn 3 r) (f2 := ogc 3 r) (z20 := z20) (z21 := F_m12_copyOf (b34 r) i1 i6 i9 b2 b4 b8 b15 b16 b17 b18 b19 b20 b21) (b2 := b2) (b3 := b3) (b4 := b4) (b8 := b8) p2 h9 hL hC q2 i9.toInt.toNat 22 0 0 i25 i26 0 a37 ptn ptc [] c0 (by omega) (by omega) ⟨c0, fun k c h => by cases h⟩ (by show 0 + 16 * i9.toInt.toNat ≤ 320; omega)
  have g3 : HL c37 j27 (WF (gB (b34 r) i1 i6 i9 b2 b3 b4 b8 b15 b16 b17 b18 b19 b20 b21 b23 b24 b25 b26 (ogn 3 r) (ogc 3 r)) (16 * i9.toInt.toNat) 0) := g2
  have hO := hw_ok (v := b34 r) (day := i1) (i6 := i6) (i9 := i9) (b2 := b2) (b3 := b3) (b4 := b4) (b8 := b8) (b15 := b15) (b16 := b16) (b17 := b17) (b18 := b18) (b19 := b19) (b20 := b20) (b21 := b21) (b23 := b23) (b24 := b24) (b25 := b25) (b26 := b26) (n2 := ogn 3 r) (f2 := ogc 3 r) hm
  have hl : (WF (gB (b34 r) i1 i6 i9 b2 b3 b4 b8 b15 b16 b17 b18 b19 b20 b21 b23 b24 b25 b26 (ogn 3 r) (ogc 3 r)) (16 * i9.toInt.toNat) 0).length ≤ 320 := by
    have := WF_len (hw := gB (b34 r) i1 i6 i9 b2 b3 b4 b8 b15 b16 b17 b18 b19 b20 b21 b23 b24 b25 b26 (ogn 3 r) (ogc 3 r)) (16 * i9.toInt.toNat) 0
    omega
  have S5 := xb50 (r := r) (n := ogn 3 r) (wt := wt) (i17 := b34 r) (i18 := i1) (i19 := F_m12_companyOf (b34 r) i6 b2 b8) (i20 := z20) (i21 := F_m12_copyOf (b34 r) i1 i6 i9 b2 b4 b8 b15 b16 b17 b18 b19 b20 b21) (i22 := F_m12_tokensOf (b34 r) i1 i6 i9 b2 b4 b8 b15 b16 b17 b18 b19 b20 b21) (i23 := b2 (b34 r).toNatClampNeg) (i24 := b3 (b34 r).toNatClampNeg) (i25 := j25) (i26 := j26) (f32 := ogc 3 r) (a36 := a36) (ptn := qtn) (ptc := qtc) (ogn := ogn) (ogc := ogc) h9 hL g3 hO hl p2 s3 (WF (gB (b34 r) i1 i6 i9 b2 b3 b4 b8 b15 b16 b17 b18 b19 b20 b21 b23 b24 b25 b26 (ogn 3 r) (ogc 3 r)) (16 * i9.toInt.toNat) 0).length 322 0 0 0 c0 (by omega) (by omega) (by decide) (by rw [c0]; omega)
  rw [List.drop_zero] at S5
  have eW : WF (gB (b34 r) i1 i6 i9 b2 b3 b4 b8 b15 b16 b17 b18 b19 b20 b21 b23 b24 b25 b26 (ogn 3 r) (ogc 3 r)) (16 * i9.toInt.toNat) 0 = (WF (hwB 119 (b34 r) i1 i6 i9 b2 b3 b4 b8 b15 b16 b17 b18 b19 b20 b21 b23 b24 b25 b26) (16 * i9.toInt.toNat) 0).filter (spB b19 b20 b21 (ogc 3 r) (ogn 3 r) 0) := WF_filter (hw := hwB 119 (b34 r) i1 i6 i9 b2 b3 b4 b8 b15 b16 b17 b18 b19 b20 b21 b23 b24 b25 b26) (sp := spB b19 b20 b21 (ogc 3 r) (ogn 3 r) 0) (16 * i9.toInt.toNat) 0
  have eL : brl (mtB b19 b20 b21) (TB ogn ogc b22 r) (ogc 3 r) (ogn 3 r) (WF (gB (b34 r) i1 i6 i9 b2 b3 b4 b8 b15 b16 b17 b18 b19 b20 b21 b23 b24 b25 b26 (ogn 3 r) (ogc 3 r)) (16 * i9.toInt.toNat) 0) = brl (mtB b19 b20 b21) (TB ogn ogc b22 r) (ogc 3 r) (ogn 3 r) (WF (hwB 119 (b34 r) i1 i6 i9 b2 b3 b4 b8 b15 b16 b17 b18 b19 b20 b21 b23 b24 b25 b26) (16 * i9.toInt.toNat) 0) := by
    rw [eW]
    exact brl_f (mt := mtB b19 b20 b21) (tb := TB ogn ogc b22 r) (tok := ogc 3 r) (n := ogn 3 r) (sp := spB b19 b20 b21 (ogc 3 r) (ogn 3 r) 0) (fun c k h2 h3 => spB_y (ogn 3 r) 0 k (Nat.zero_le _) (by omega) h3) _
  rw [eL] at S5
  have hG : F_x1_gatherHeld (b34 r) i1 (ogn 3 r) (ogc 3 r) i3 i6 i9 i25 i26 a7 a8 a13 a18 a19 a20 a21 a22 a23 a24 a25 a26 a37 r9n r9c rtn rtc ptn ptc = (b34 r, i1, F_m12_companyOf (b34 r) i6 b2 b8, z20, F_m12_copyOf (b34 r) i1 i6 i9 b2 b4 b8 b15 b16 b17 b18 b19 b20 b21, F_m12_tokensOf (b34 r) i1 i6 i9 b2 b4 b8 b15 b16 b17 b18 b19 b20 b21, b2 (b34 r).toNatClampNeg, b3 (b34 r).toNatClampNeg, j25, j26, j27, c37, qtn, qtc) := by
    rw [E_x1_gatherHeld, ea]
    exact g1
  have hX : F_x1_seekBreach r i1 wt i3 i6 i9 i25 i26 a7 a8 a13 a18 a19 a20 a21 a22 a23 a24 a25 a26 a36 a37 r9n r9c og ogn ogc rtn rtc ptn ptc = f_x1_seekBreach_j50 r wt a23 a24 a25 a36 ogn ogc (ogn 3 r) (ogc 3 r) (b34 r) i1 (F_m12_companyOf (b34 r) i6 b2 b8) z20 (F_m12_copyOf (b34 r) i1 i6 i9 b2 b4 b8 b15 b16 b17 b18 b19 b20 b21) (F_m12_tokensOf (b34 r) i1 i6 i9 b2 b4 b8 b15 b16 b17 b18 b19 b20 b21) (b2 (b34 r).toNatClampNeg) (b3 (b34 r).toNatClampNeg) j25 j26 j27 c37 qtn qtc 322 0 0 := by
    rw [E_x1_seekBreach, show F_x7_tokenRow r ogn ogc = (ogn 3 r, ogc 3 r) from rfl, show F_x7_verseNumber r og = b34 r from k1]
    dsimp only
    rw [hG]
  have e0 : (0 : Int32).toInt = 0 := c0
  rw [e0] at r2 S5
  generalize brl (mtB b19 b20 b21) (TB ogn ogc b22 r) (ogc 3 r) (ogn 3 r) (WF (hwB 119 (b34 r) i1 i6 i9 b2 b3 b4 b8 b15 b16 b17 b18 b19 b20 b21 b23 b24 b25 b26) (16 * i9.toInt.toNat) 0) = L at r2 S5 hQ
  refine ⟨L, y, d28, d29, _, hQ, by omega, hX, ?_⟩
  rcases S5 with ⟨x, s, x1, x2⟩ | ⟨x1, s, x2, x3⟩
  · exact Or.inl ⟨x, x1, by rw [x2], by rw [x2]⟩
  · exact Or.inr ⟨x1, by rw [x2], by rw [x2]; show s.toInt = _; omega⟩
def bans (x : I2) (u2 : Int32) : Int32 := if u2.toInt = 0 then x.1 / (16 : Int32) else if u2.toInt = 1 then x.1 - x.1 / (16 : Int32) * (16 : Int32) else if u2.toInt = 2 then x.2 else (-1 : Int32)
theorem bans_no {x : I2} {u2 : Int32} (h : u2.toInt < 0 ∨ 2 < u2.toInt) : bans x u2 = (-1 : Int32) := by
  unfold bans
  rw [if_neg (show ¬ u2.toInt = 0 by omega), if_neg (show ¬ u2.toInt = 1 by omega), if_neg (show ¬ u2.toInt = 2 by omega)]
theorem told_b {x : I2} {u2 : Int32} {c36 : Nat → Int32} (h0 : ¬ u2.toInt < 0) (h2 : u2.toInt ≤ 2) : F_x1_told u2 (upd (F_x1_tellClause 0 x.1 c36) (2 : Int32).toNatClampNeg x.2) = bans x u2 := by
  have e0 : (0 : Int32).toNatClampNeg = 0 := by decide
  have e1 : ((0 : Int32) + (1 : Int32)).toNatClampNeg = 1 := by decide
  have e2 : (2 : Int32).toNatClampNeg = 2 := by decide
  rw [E_x1_told, if_neg h0, if_neg (show ¬ u2.toInt ≥ 5 by omega), E_x1_tellClause, e0, e1, e2, E_x2_rulesOf, E_x2_placeOf]
  unfold bans
  by_cases k0 : u2.toInt = 0
  · rw [if_pos k0, nc (p := 0) k0]; rfl
  · rw [if_neg k0]
    by_cases k1 : u2.toInt = 1
    · rw [if_pos k1, nc (p := 1) k1]; rfl
    · rw [if_neg k1, if_pos (show u2.toInt = 2 by omega), nc (p := 2) (show u2.toInt = ((2 : Nat) : Int) by omega)]; rfl
theorem R_breaches (hv : 0 ≤ i3.toInt ∧ i3.toInt ≤ 60) (h6 : 0 ≤ i6.toInt ∧ i6.toInt ≤ 6) (h9 : 0 ≤ i9.toInt ∧ i9.toInt ≤ 20) (h10 : 0 ≤ i10.toInt ∧ i10.toInt ≤ 200) (hV : VRS i3 a7 b2) (hM : MES i3 a8 b3) (hP : PPL i6 a13 b8) (hL : LAW i9 a18 a19 a20 a21 a22 a23 a24 a25 b15 b16 b17 b18 b19 b20 b21 b22) (hK : KI i9 b18 b19 b20 b21 b22) (hR : RWS r9n r9c b4 b5) (hC : RCC i9 a21 a26 rtn rtc b23 b24 b25 b26) (hN : RNC i10 og ogn ogc b33 b34 b36 b37 b38 b39 b40 b41 b42) (hS : RNS i3 i10 og b34 b35 b43) : (F_x11_breaches u0 i1 i3 i6 i9 i10 i17 i18 i19 i20 i21 i22 i23 i24 i25 i26 i27 i29 a7 a8 a13 a18 a19 a20 a21 a22 a23 a24 a25 a26 a36 a37 r9n r9c og ogn ogc rtn rtc ptn ptc).1 = (F_m12_breaches u0 i1 i6 i9 i10 m19 m20 b2 b3 b4 b8 b15 b16 b17 b18 b19 b20 b21 b22 b23 b24 b25 b26 b28 b29 b34 b38 b39 b40 b41 b42).1 := by
  rw [E_x11_breaches, E_m12_breaches]
  rcases xat (u := u0) (i10 := i10) with ⟨h1, h⟩ | ⟨r, hu, hr, h⟩
  · rcases mren (u := u0) (i7 := i10) h10.1 with ⟨g1, _⟩ | ⟨_, g⟩
    · exact absurd g1 h1
    · rw [h, g, if_pos rfl, if_pos y00]
  · rcases mren (u := u0) (i7 := i10) h10.1 with ⟨_, g⟩ | ⟨g1, _⟩
    · rw [h, g, if_neg (Nat.succ_ne_zero r), if_neg n10, Nat.add_sub_cancel]
      obtain ⟨L, y, d28, d29, T, hQ, hy, hT, hh⟩ := BRB (u0 := u0) (wt := (-1 : Int32)) (i1 := i1) (i25 := i25) (i26 := i26) (m19 := m19) (m20 := m20) (a36 := a36) (a37 := a37) (b28 := b28) (b29 := b29) (ptn := ptn) (ptc := ptc) hu hr hv h6 h9 h10 hV hM hP hL hK hR hC hN hS
      rw [hQ, hT]
      show F_x1_seen (T.2.2.2.2.2.2.2.2.2.2.2.2.1) = y
      rw [E_x1_seen]
      rcases hh with ⟨x, x1, _⟩ | ⟨_, _, x3⟩
      · rw [skp_past L 0 (by decide)] at x1; cases x1
      · exact eq_of_toInt (by omega)
    · exact absurd ⟨by omega, by omega⟩ g1
theorem R_breach (hv : 0 ≤ i3.toInt ∧ i3.toInt ≤ 60) (h6 : 0 ≤ i6.toInt ∧ i6.toInt ≤ 6) (h9 : 0 ≤ i9.toInt ∧ i9.toInt ≤ 20) (h10 : 0 ≤ i10.toInt ∧ i10.toInt ≤ 200) (hV : VRS i3 a7 b2) (hM : MES i3 a8 b3) (hP : PPL i6 a13 b8) (hL : LAW i9 a18 a19 a20 a21 a22 a23 a24 a25 b15 b16 b17 b18 b19 b20 b21 b22) (hK : KI i9 b18 b19 b20 b21 b22) (hR : RWS r9n r9c b4 b5) (hC : RCC i9 a21 a26 rtn rtc b23 b24 b25 b26) (hN : RNC i10 og ogn ogc b33 b34 b36 b37 b38 b39 b40 b41 b42) (hS : RNS i3 i10 og b34 b35 b43) : (F_x11_breach u0 u1 u2 i1 i3 i6 i9 i10 i17 i18 i19 i20 i21 i22 i23 i24 i25 i26 i27 i29 a7 a8 a13 a18 a19 a20 a21 a22 a23 a24 a25 a26 a36 a37 r9n r9c og ogn ogc rtn rtc ptn ptc).1 = (F_m12_breach u0 u1 u2 i1 i6 i9 i10 m19 m20 b2 b3 b4 b8 b15 b16 b17 b18 b19 b20 b21 b22 b23 b24 b25 b26 b28 b29 b34 b38 b39 b40 b41 b42).1 := by
  rw [E_x11_breach, E_m12_breach]
  rcases xat (u := u0) (i10 := i10) with ⟨h1, h⟩ | ⟨r, hu, hr, h⟩
  · rcases mren (u := u0) (i7 := i10) h10.1 with ⟨g1, _⟩ | ⟨_, g⟩
    · exact absurd g1 h1
    · rw [h, g, if_pos rfl, if_pos y00]
  · rcases mren (u := u0) (i7 := i10) h10.1 with ⟨_, g⟩ | ⟨g1, _⟩
    · rw [h, g, if_neg (Nat.succ_ne_zero r), if_neg n10, Nat.add_sub_cancel]
      by_cases w1 : u1.toInt < 0
      · rw [if_pos w1, if_pos w1]
      · rw [if_neg w1, if_neg w1]
        obtain ⟨L, y, d28, d29, T, hQ, hy, hT, hh⟩ := BRB (u0 := u0) (wt := u1) (i1 := i1) (i25 := i25) (i26 := i26) (m19 := m19) (m20 := m20) (a36 := a36) (a37 := a37) (b28 := b28) (b29 := b29) (ptn := ptn) (ptc := ptc) hu hr hv h6 h9 h10 hV hM hP hL hK hR hC hN hS
        rw [hQ, hT]
        dsimp only
        have mb : ∀ (f : I2) (Z : Int32 → Int32 × Int32 × Int32 × (Nat → Int32) × (Nat → Int32)), (∀ q, (Z q).1 = q) → (if y.toInt > u1.toInt then (if u2.toInt ≠ 0 then (if u2.toInt ≠ 1 then (if u2.toInt ≠ 2 then Z (-1 : Int32) else Z f.2) else Z (f.1 - f.1 / (16 : Int32) * (16 : Int32))) else Z (f.1 / (16 : Int32))) else Z (-1 : Int32)).1 = if y.toInt > u1.toInt then bans f u2 else (-1 : Int32) := by
          intro f Z hZ
          by_cases k : y.toInt > u1.toInt
          · rw [if_pos k, if_pos k]
            unfold bans
            by_cases k0 : u2.toInt = 0
            · rw [if_neg (fun z => z k0), if_pos k0, hZ]
            · rw [if_pos k0, if_neg k0]
              by_cases k1 : u2.toInt = 1
              · rw [if_neg (fun z => z k1), if_pos k1, hZ]
              · rw [if_pos k1, if_neg k1]
                by_cases k2 : u2.toInt = 2
                · rw [if_neg (fun z => z k2), if_pos k2, hZ]
                · rw [if_pos k2, if_neg k2, hZ]
          · rw [if_neg k, if_neg k, hZ]
        have mb' := mb (fnd u1.toInt 0 L (m19, m20)) (fun q => (q, (fnd u1.toInt 0 L (m19, m20)).1, (fnd u1.toInt 0 L (m19, m20)).2, d28, d29)) (fun _ => rfl)
        refine Eq.trans ?_ mb'.symm
        clear mb mb'
        rcases hh with ⟨x, x1, x2, x3⟩ | ⟨x1, x2, _⟩
        · have e1 := fnd_skp _ _ (m19, m20) x x1
          obtain ⟨_, e3⟩ := skp_some _ _ _ x1
          rw [e1]
          by_cases w2 : u2.toInt < 0
          · rw [if_pos w2, bans_no (Or.inl w2), ite_self]
          · rw [if_neg w2]
            by_cases w4 : u2.toInt ≤ 2
            · rw [if_pos w4, x2, if_neg n10, if_pos (show y.toInt > u1.toInt by omega), x3]
              exact told_b w2 w4
            · rw [if_neg w4, bans_no (Or.inr (by omega)), ite_self]
        · have e3 := skp_none _ _ (by omega) x1
          rw [if_neg (show ¬ y.toInt > u1.toInt by omega)]
          by_cases w2 : u2.toInt < 0
          · rw [if_pos w2]
          · rw [if_neg w2]
            by_cases w4 : u2.toInt ≤ 2
            · rw [if_pos w4, x2, if_pos y00]
            · rw [if_neg w4]
    · exact absurd ⟨by omega, by omega⟩ g1
end BRR
