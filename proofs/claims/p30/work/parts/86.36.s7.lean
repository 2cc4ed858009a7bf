/-! CLOSE, on both sides: what becomes of it -/
theorem st47 {i3 i10 : Int32} {og : Nat → Nat → Int32} {b34 b35 b43 : Nat → Int32} (h : RNS i3 i10 og b34 b35 b43) {r : Nat} (hr : (r : Int) < i10.toInt) (h1 : (b35 r).toInt ≤ 1) : F_x7_stage r og = b35 r := by
  obtain ⟨s7, -, s1, -⟩ := h.1 r hr
  rcases st_of (og := og) (b35 := b35) s7 with ⟨e, e1⟩ | ⟨e, e1⟩
  · rw [e1]; exact eq_of_toInt (by rw [e]; rfl)
  · rw [e1]; exact eq_of_toInt (by rw [show (b35 r).toInt = 1 by omega]; rfl)
theorem need_ok {u v day i6 i9 i20 : Int32} {a18 a19 a20 a21 a22 a23 a24 a25 b2 b8 b15 b16 b17 b18 b19 b20 b21 b22 : Nat → Int32} (h9 : 0 ≤ i9.toInt ∧ i9.toInt ≤ 20) (hF : FRC v day i6 i9 b2 b8 b15 b16 b17 i20) (hL : LAW i9 a18 a19 a20 a21 a22 a23 a24 a25 b15 b16 b17 b18 b19 b20 b21 b22) : (F_m12_neededAt u v day i6 i9 b2 b8 b15 b16 b17 b18 b19 b20 b21).toInt ≠ -1 := by
  have ck : (118 : Int32).toInt = 118 := by decide
  obtain ⟨e, l⟩ := last_of (kind := 118) (subj := u) (Or.inl ck) h9 hF hL
  rw [E_m12_neededAt]
  clear e
  generalize F_m12_lastOf 118 u v day i6 i9 b2 b8 b15 b16 b17 b18 b19 b20 = r at l ⊢
  rcases l with l | ⟨i, j, h1, h2, h3, h4, h5⟩
  · rw [if_neg (by omega)]
    decide
  · obtain ⟨_, _, _, _, ⟨g1, g2⟩, l6⟩ := hL i h1
    obtain ⟨_, _, d3, _⟩ := l6 (16 * i + j) (by omega) (by omega)
    rw [if_pos (by omega), nc h3]
    have := (d3 (by omega)).2.2.2
    omega
theorem fxa {v i10 : Int32} {a29 b34 b35 : Nat → Int32} {V : Nat} (hv : v.toInt = (V : Int)) (hV : V < 60) (h : FXD i10 a29 b34 b35) : ((a29 V).toInt = -1 ∧ F_x8_fixedAt v i10 a29 = 0) ∨ (∃ q : Nat, (q : Int) < i10.toInt ∧ (a29 V).toInt = (q : Int) ∧ (b34 q).toInt = (V : Int) ∧ (b35 q).toInt = 2 ∧ F_x8_fixedAt v i10 a29 = q + 1) := by
  have en : F_x8_fixedNumber v a29 = a29 V := by
    rw [E_x8_fixedNumber, if_neg (show ¬ v.toInt < 0 by omega), if_neg (show ¬ v.toInt ≥ 60 by omega), nc hv]
  rw [E_x8_fixedAt, en]
  rcases h V hV with ⟨g1, g2⟩ | ⟨q, g1, g2, g3, g4, g5⟩
  · left
    rcases xat (u := a29 V) (i10 := i10) with ⟨a1, a⟩ | ⟨r, a1, a2, a⟩
    · rw [a, if_pos rfl]; exact ⟨g1, rfl⟩
    · omega
  · right
    rcases xat (u := a29 V) (i10 := i10) with ⟨a1, a⟩ | ⟨r, a1, a2, a⟩
    · exact absurd (show 0 ≤ (a29 V).toInt ∧ (a29 V).toInt < i10.toInt by omega) a1
    · have er : r = q := by omega
      subst er
      rw [a, if_neg (Nat.succ_ne_zero r), Nat.add_sub_cancel]
      exact ⟨r, g1, g2, g3, g4, rfl⟩
def RSTT (i3 i10 : Int32) (b12 b34 b49 b50 : Nat → Int32) (og0 : Nat → Nat → Int32) (i11 : Int32) (a29 a30 a31 a32 : Nat → Int32) (og : Nat → Nat → Int32) (j18 : Int32) (b35 b43 b44 b45 b46 b47 b48 b51 b52 b53 : Nat → Int32) : Prop :=
  RNS i3 i10 og b34 b35 b43 ∧ KEP i10 og b44 b45 b46 ∧ VOT i10 og b49 b50 ∧ STD i10 b12 b35 b46 b47 b48 b49 b50 ∧ FXD i10 a29 b34 b35 ∧ TEL i10 i11 j18 a30 a31 a32 b51 b52 b53 ∧ TLV i3 i11 a30 ∧ ∀ f j, f < 7 → og f j = og0 f j
theorem keep_ok {i10 V h n y : Int32} {r t : Nat} {og og2 : Nat → Nat → Int32} {b12 b35 c35 b44 b45 b46 b47 b48 b49 b50 A B : Nat → Int32} (hr : (r : Int) < i10.toInt) (h200 : i10.toInt ≤ 200) (ht : (b35 r).toInt = (t : Int)) (ht1 : t ≤ 1) (hst : F_x7_stage r og = b35 r) (hK : KEP i10 og b44 b45 b46) (hT : VOT i10 og b49 b50) (hB : STD i10 b12 b35 b46 b47 b48 b49 b50)
    (hh : h.toInt ≠ -1) (hy : bitsF (og 10 (2 * r + t) &&& V) = y) (hn : bitsF V = n)
    (ho : ∀ f j, f ≠ 7 → f ≠ 8 → og2 f j = F_x7_keepVote V h r og f j) (hc : ∀ q : Nat, (q : Int) < i10.toInt → q ≠ r → c35 q = b35 q ∨ (c35 q).toInt = 4) (hc2 : (c35 r).toInt = 3 ∨ ((c35 r).toInt = 1 ∧ t = 0) ∨ ((c35 r).toInt = 2 ∧ t = 1))
    (hA : ∀ j, j ≠ 2 * r + t → A j = b47 j ∧ B j = b48 j) (hAB : SB b12 (A (2 * r + t)) (B (2 * r + t)) (b49 (2 * r + t)) (b50 (2 * r + t))) :
    KEP i10 og2 (upd b44 (2 * r + t) y) (upd b45 (2 * r + t) n) (upd b46 (2 * r + t) h) ∧ VOT i10 og2 b49 b50 ∧ STD i10 b12 c35 (upd b46 (2 * r + t) h) A B b49 b50 := by
  have es : (F_x7_stage r og).toNatClampNeg = t := by rw [hst]; exact nc ht
  have ek : ∀ f j, f ≠ 7 → f ≠ 8 → og2 f j = up2 (up2 (up2 og 11 (2 * r + t) y) 12 (2 * r + t) n) 13 (2 * r + t) h f j := by
    intro f j h7 h8
    rw [ho f j h7 h8, E_x7_keepVote, es, hy, hn]
  refine ⟨fun j hj => ?_, ⟨fun j hj => ?_, hT.2⟩, fun q hq => ?_⟩
  · by_cases e : j = 2 * r + t
    · subst e
      rw [ek 11 _ (by decide) (by decide), ek 12 _ (by decide) (by decide), ek 13 _ (by decide) (by decide), up2_f (a := 11) (f := 13) (by decide), up2_f (a := 11) (f := 12) (by decide), up2_same, up2_f (a := 12) (f := 13) (by decide), up2_same, up2_same, upd_s, upd_s, upd_s]
      exact Or.inr ⟨hh, rfl, rfl, rfl⟩
    · rw [ek 11 _ (by decide) (by decide), ek 12 _ (by decide) (by decide), ek 13 _ (by decide) (by decide), upd_n e, upd_n e, upd_n e, up2_j e, up2_j e, up2_j e, up2_j e, up2_j e, up2_j e, up2_j e, up2_j e, up2_j e]
      exact hK j hj
  · rw [ek 9 _ (by decide) (by decide), ek 10 _ (by decide) (by decide), up2_f (a := 9) (by decide), up2_f (a := 9) (by decide), up2_f (a := 9) (by decide), up2_f (a := 10) (by decide), up2_f (a := 10) (by decide), up2_f (a := 10) (by decide)]
    exact hT.1 j hj
  · by_cases e : q = r
    · subst e
      rcases hc2 with g | ⟨g, g2⟩ | ⟨g, g2⟩
      · exact ⟨fun z => by omega, fun z => by omega⟩
      · subst g2
        refine ⟨fun _ => ?_, fun z => by omega⟩
        rw [show 2 * q + 0 = 2 * q from rfl] at *
        rw [upd_s]
        exact ⟨hh, hAB⟩
      · subst g2
        refine ⟨fun _ => ?_, fun _ => ?_⟩
        · have o := (hB q hq).1 (Or.inl ht)
          rw [upd_n (by omega), (hA (2 * q) (by omega)).1, (hA (2 * q) (by omega)).2]
          exact o
        · rw [upd_s]
          exact ⟨hh, hAB⟩
    · rw [upd_n (by omega), upd_n (by omega), (hA (2 * q) (by omega)).1, (hA (2 * q) (by omega)).2, (hA (2 * q + 1) (by omega)).1, (hA (2 * q + 1) (by omega)).2]
      rcases hc q hq e with g | g
      · rw [g]; exact hB q hq
      · exact ⟨fun z => by omega, fun z => by omega⟩
/-- a state that is neither FIXED before nor behind -/
theorem FXD_st {i10 x : Int32} {a29 b34 b35 : Nat → Int32} {r : Nat} (h : FXD i10 a29 b34 b35) (h1 : (b35 r).toInt ≠ 2) (h2 : x.toInt ≠ 2) : FXD i10 a29 b34 (upd b35 r x) := by
  intro v hv
  rcases h v hv with ⟨g1, g2⟩ | ⟨q, g1, g2, g3, g4, g5⟩
  · refine Or.inl ⟨g1, fun p hp hp2 => ?_⟩
    by_cases e : p = r
    · subst e; rw [upd_s]; exact h2
    · rw [upd_n e]; exact g2 p hp hp2
  · have e : q ≠ r := fun e => by subst e; exact h1 g4
    refine Or.inr ⟨q, g1, g2, g3, by rw [upd_n e]; exact g4, fun p hp hp2 hp3 => ?_⟩
    by_cases e2 : p = r
    · subst e2; rw [upd_s] at hp3; exact absurd hp3 h2
    · rw [upd_n e2] at hp3; exact g5 p hp hp2 hp3
theorem RNS_st {i3 i10 x : Int32} {og og1 : Nat → Nat → Int32} {b34 b35 b43 : Nat → Int32} {r : Nat} (h : RNS i3 i10 og b34 b35 b43) (hr : (r : Int) < i10.toInt) (h7 : ∀ f j, f = 7 ∨ f = 8 → og1 f j = og f j) (hx : 0 ≤ x.toInt ∧ x.toInt ≤ 4) (hx1 : x.toInt ≤ 1 → (b43 r).toInt = -1) : RNS i3 i10 (up2 og1 7 r x) b34 (upd b35 r x) b43 := by
  refine ⟨fun q hq => ?_, fun q hq hq2 => ?_⟩
  · obtain ⟨s7, s8, s1, s2, s3⟩ := h.1 q hq
    rw [up2_f (a := 8) (f := 7) (by decide), h7 8 q (Or.inr rfl)]
    by_cases e : q = r
    · subst e
      rw [up2_same, upd_s]
      exact ⟨rfl, s8, hx, s2, hx1⟩
    · rw [up2_j e, upd_n e, h7 7 q (Or.inl rfl)]
      exact ⟨s7, s8, s1, s2, s3⟩
  · rw [upd_n (by omega)]
    exact h.2 q hq hq2
theorem RNS_day {i3 i10 d : Int32} {og : Nat → Nat → Int32} {b34 b35 b43 : Nat → Int32} {r : Nat} (h : RNS i3 i10 og b34 b35 b43) (h1 : 1 < (b35 r).toInt) : RNS i3 i10 (up2 og 8 r d) b34 b35 (upd b43 r d) := by
  refine ⟨fun q hq => ?_, h.2⟩
  obtain ⟨s7, s8, s1, s2, s3⟩ := h.1 q hq
  rw [up2_f (a := 7) (f := 8) (by decide)]
  by_cases e : q = r
  · subst e
    rw [up2_same, upd_s]
    exact ⟨s7, rfl, s1, s2, fun z => by omega⟩
  · rw [up2_j e, upd_n e]
    exact ⟨s7, s8, s1, s2, s3⟩
theorem TEL_add {i3 i10 i11 j18 d v R : Int32} {a30 a31 a32 b51 b52 b53 : Nat → Int32} (h : TEL i10 i11 j18 a30 a31 a32 b51 b52 b53) (hV : TLV i3 i11 a30) (h11 : i11.toInt < 1024) (hv : 0 ≤ v.toInt ∧ v.toInt < i3.toInt) (hR : R.toInt = -1 ∨ (0 ≤ R.toInt ∧ R.toInt < i10.toInt)) :
    TEL i10 (i11 + 1) (j18 + 1) (upd a30 i11.toNatClampNeg v) (upd a31 i11.toNatClampNeg d) (upd a32 i11.toNatClampNeg R) (upd b51 j18.toNatClampNeg v) (upd b52 j18.toNatClampNeg R) (upd b53 j18.toNatClampNeg d) ∧ TLV i3 (i11 + 1) (upd a30 i11.toNatClampNeg v) := by
  obtain ⟨h1, h2, h3⟩ := h
  subst h1
  have e1 := toInt_add (x := i11) rfl c1 (by omega) (by omega)
  have ei : i11.toNatClampNeg = i11.toInt.toNat := rfl
  rw [ei]
  refine ⟨⟨rfl, by omega, fun t ht => ?_⟩, fun t ht => ?_⟩
  · by_cases e : t = i11.toInt.toNat
    · subst e
      rw [upd_s, upd_s, upd_s, upd_s, upd_s, upd_s]
      exact ⟨rfl, rfl, rfl, hR⟩
    · rw [upd_n e, upd_n e, upd_n e, upd_n e, upd_n e, upd_n e]
      exact h3 t (by omega)
  · by_cases e : t = i11.toInt.toNat
    · subst e; rw [upd_s]; exact hv
    · rw [upd_n e]; exact hV t (by omega)
theorem set_of {v R d i11 : Int32} {V : Nat} {a29 a30 a31 a32 : Nat → Int32} (hv : v.toInt = (V : Int)) (hV : V < 60) (h : i11.toInt < 1024) : F_x8_setFixed v R d i11 a29 a30 a31 a32 = (i11 + 1, upd a29 V R, upd a30 i11.toNatClampNeg v, upd a31 i11.toNatClampNeg d, upd a32 i11.toNatClampNeg R) := by
  rw [E_x8_setFixed, if_neg (show ¬ v.toInt < 0 by omega), if_pos (show v.toInt < 60 by omega), if_neg (show ¬ i11.toInt ≥ 1024 by omega), nc hv]
