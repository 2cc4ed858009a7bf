/-! CLOSE, on both sides: the end -/
theorem cr_zero (f : Nat → Bool) : ∀ (m X : Nat), cr f X m = 0 → ∀ i, X ≤ i → i < X + m → f i = false
  | 0, X, _, i, h1, h2 => by omega
  | m + 1, X, h, i, h1, h2 => by
    have h : (f X).toNat + cr f (X + 1) m = 0 := h
    by_cases e : i = X
    · subst e
      cases q : f i with
      | false => rfl
      | true => rw [q] at h; have : (true : Bool).toNat = 1 := rfl; omega
    · exact cr_zero f m (X + 1) (by omega) i (by omega) (by omega)
abbrev X15 := Int32 × Int32 × Int32 × Int32 × Int32 × Int32 × Int32 × Int32 × Int32 × Int32 × (Nat → Int32) × (Nat → Int32) × (Nat → Int32) × (Nat → Int32) × (Nat → Nat → Int32)
abbrev M12c := Int32 × Int32 × (Nat → Int32) × (Nat → Int32) × (Nat → Int32) × (Nat → Int32) × (Nat → Int32) × (Nat → Int32) × (Nat → Int32) × (Nat → Int32) × (Nat → Int32) × (Nat → Int32)
abbrev T8 := Int32 × Int32 × Int32 × Int32 × Int32 × Int32 × Int32 × Int32
def RCL (i3 i10 : Int32) (b12 b34 b49 b50 : Nat → Int32) (og0 : Nat → Nat → Int32) (x : X15) (m : M12c) : Prop :=
  x.1 = m.1 ∧ RSTT i3 i10 b12 b34 b49 b50 og0 x.2.1 x.2.2.2.2.2.2.2.2.2.2.1 x.2.2.2.2.2.2.2.2.2.2.2.1 x.2.2.2.2.2.2.2.2.2.2.2.2.1 x.2.2.2.2.2.2.2.2.2.2.2.2.2.1 x.2.2.2.2.2.2.2.2.2.2.2.2.2.2 m.2.1 m.2.2.1 m.2.2.2.1 m.2.2.2.2.1 m.2.2.2.2.2.1 m.2.2.2.2.2.2.1 m.2.2.2.2.2.2.2.1 m.2.2.2.2.2.2.2.2.1 m.2.2.2.2.2.2.2.2.2.1 m.2.2.2.2.2.2.2.2.2.2.1 m.2.2.2.2.2.2.2.2.2.2.2
/-- the class where there are voters -/
def XCL (u0 i1 i9 i10 i11 : Int32) (a21 a22 a23 a25 a29 a30 a31 a32 : Nat → Int32) (og : Nat → Nat → Int32) (r : Nat) (V h : Int32) (t : T8) : X15 :=
  if (F_x7_wouldGoOn V h r og).toInt = 0 then f_x11_close_j140 u0 i1 i9 i10 i11 a21 a22 a23 a25 a29 a30 a31 a32 og r V t.1 t.2.1 t.2.2.1 t.2.2.2.1 t.2.2.2.2.1 t.2.2.2.2.2.1 t.2.2.2.2.2.2.1 t.2.2.2.2.2.2.2 h (F_x7_wouldGoOn V h r og)
  else (if (F_x7_stage r og).toInt ≠ 1 then f_x11_close_j140 u0 i1 i9 i10 i11 a21 a22 a23 a25 a29 a30 a31 a32 og r V t.1 t.2.1 t.2.2.1 t.2.2.2.1 t.2.2.2.2.1 t.2.2.2.2.2.1 t.2.2.2.2.2.2.1 t.2.2.2.2.2.2.2 h (F_x7_wouldGoOn V h r og)
  else f_x11_close_j64 u0 i1 i9 i10 i11 a21 a22 a23 a25 a29 a30 a31 a32 og r V t.1 t.2.1 t.2.2.1 t.2.2.2.1 t.2.2.2.2.1 t.2.2.2.2.2.1 t.2.2.2.2.2.2.1 t.2.2.2.2.2.2.2 h (F_x7_wouldGoOn V h r og) (1 : Int32))
section CLOSEX
variable {u0 i1 i3 i4 i6 i7 i8 i9 i10 i11 i17 i18 i19 i20 i21 i22 i23 i24 j18 : Int32} {a7 a8 a13 a15 a18 a19 a20 a21 a22 a23 a24 a25 a29 a30 a31 a32 b2 b8 b10 b11 b12 b15 b16 b17 b18 b19 b20 b21 b22 b34 b35 b43 b44 b45 b46 b47 b48 b49 b50 b51 b52 b53 : Nat → Int32} {r9n : Nat → Nat} {r9c : Nat → Nat → Int32} {og : Nat → Nat → Int32}
theorem xclose : F_x11_close u0 i1 i3 i4 i6 i8 i9 i10 i11 i17 i18 i19 i20 i21 i22 i23 i24 a7 a8 a13 a15 a18 a19 a20 a21 a22 a23 a25 a29 a30 a31 a32 r9n r9c og = if (F_x8_at u0 i10) = 0 then ((-1 : Int32), i11, i17, i18, i19, i20, i21, i22, i23, i24, a29, a30, a31, a32, og) else (if (F_x7_isUnderVote ((F_x8_at u0 i10) - 1) og).toInt ≠ 0 then (if (F_x11_votersOf ((F_x8_at u0 i10) - 1) i3 i4 i6 i8 a7 a13 a15 og).toInt ≠ 0 then XCL u0 i1 i9 i10 i11 a21 a22 a23 a25 a29 a30 a31 a32 og ((F_x8_at u0 i10) - 1) (F_x11_votersOf ((F_x8_at u0 i10) - 1) i3 i4 i6 i8 a7 a13 a15 og) (F_x6_hundredths (F_x7_stage ((F_x8_at u0 i10) - 1) og) i9 (F_x6_aim (F_x7_verseNumber ((F_x8_at u0 i10) - 1) og) i1 i3 i6 i9 a7 a8 a13 a18 a19 a20 a21 a22 a23 a25 r9n r9c).2.2.2.1 a21 a22 a23 a25) (F_x6_aim (F_x7_verseNumber ((F_x8_at u0 i10) - 1) og) i1 i3 i6 i9 a7 a8 a13 a18 a19 a20 a21 a22 a23 a25 r9n r9c) else ((-1 : Int32), i11, i17, i18, i19, i20, i21, i22, i23, i24, a29, a30, a31, a32, og)) else ((-1 : Int32), i11, i17, i18, i19, i20, i21, i22, i23, i24, a29, a30, a31, a32, og)) := rfl
/-- DROPPED or PASSED -/
theorem cl_state {V h n y x : Int32} {r t : Nat} {A B : Nat → Int32} (hr : (r : Int) < i10.toInt) (h200 : i10.toInt ≤ 200) (ht : (b35 r).toInt = (t : Int)) (ht1 : t ≤ 1) (hst : F_x7_stage r og = b35 r) (hS : RNS i3 i10 og b34 b35 b43) (hK : KEP i10 og b44 b45 b46) (hT : VOT i10 og b49 b50) (hB : STD i10 b12 b35 b46 b47 b48 b49 b50) (hX : FXD i10 a29 b34 b35) (hE : TEL i10 i11 j18 a30 a31 a32 b51 b52 b53) (hE2 : TLV i3 i11 a30)
    (hh : h.toInt ≠ -1) (hy : bitsF (og 10 (2 * r + t) &&& V) = y) (hn : bitsF V = n) (hx : x.toInt = 3 ∨ (x.toInt = 1 ∧ t = 0))
    (hA : ∀ j, j ≠ 2 * r + t → A j = b47 j ∧ B j = b48 j) (hAB : SB b12 (A (2 * r + t)) (B (2 * r + t)) (b49 (2 * r + t)) (b50 (2 * r + t))) :
    RSTT i3 i10 b12 b34 b49 b50 og i11 a29 a30 a31 a32 (F_x7_enterState x r (F_x7_keepVote V h r og)) j18 (upd b35 r x) b43 (upd b44 (2 * r + t) y) (upd b45 (2 * r + t) n) (upd b46 (2 * r + t) h) A B b51 b52 b53 := by
  have es : (F_x7_stage r og).toNatClampNeg = t := by rw [hst]; exact nc ht
  have k78 : ∀ f j, f < 9 → F_x7_keepVote V h r og f j = og f j := by
    intro f j hf
    rw [E_x7_keepVote, up2_f (by omega), up2_f (by omega), up2_f (by omega)]
  have K := keep_ok (c35 := upd b35 r x) (og2 := F_x7_enterState x r (F_x7_keepVote V h r og)) hr h200 ht ht1 hst hK hT hB hh hy hn (fun f j h7 h8 => by rw [E_x7_enterState, up2_f h7]) (fun q hq e => Or.inl (upd_n e)) (by rw [upd_s]; omega) hA hAB
  obtain ⟨-, -, s1, s2, s3⟩ := hS.1 r hr
  refine ⟨RNS_st (og1 := F_x7_keepVote V h r og) hS hr (fun f j hf => k78 f j (by omega)) (by omega) (fun q => ?_), K.1, K.2.1, K.2.2, FXD_st hX (by omega) (by omega), hE, hE2, fun f j hf => ?_⟩
  · exact s3 (by omega)
  · rw [E_x7_enterState, up2_f (by omega)]
    exact k78 f j (by omega)
/-- FIXED: what of the same verse was FIXED is REPLACED -/
theorem cl_fix {V h n y : Int32} {r W : Nat} {A B : Nat → Int32} (hr : (r : Int) < i10.toInt) (h200 : i10.toInt ≤ 200) (hu : u0.toInt = (r : Int)) (h1 : og 1 r = b34 r) (hv : (b34 r).toInt = (W : Int)) (hW : W < 60) (h11 : i11.toInt < 1024) (ht : (b35 r).toInt = ((1 : Nat) : Int)) (hst : F_x7_stage r og = b35 r) (hS : RNS i3 i10 og b34 b35 b43) (hK : KEP i10 og b44 b45 b46) (hT : VOT i10 og b49 b50) (hB : STD i10 b12 b35 b46 b47 b48 b49 b50) (hX : FXD i10 a29 b34 b35) (hE : TEL i10 i11 j18 a30 a31 a32 b51 b52 b53) (hE2 : TLV i3 i11 a30)
    (hh : h.toInt ≠ -1) (hy : bitsF (og 10 (2 * r + 1) &&& V) = y) (hn : bitsF V = n)
    (hA : ∀ j, j ≠ 2 * r + 1 → A j = b47 j ∧ B j = b48 j) (hAB : SB b12 (A (2 * r + 1)) (B (2 * r + 1)) (b49 (2 * r + 1)) (b50 (2 * r + 1))) :
    ∃ (o11 : Int32) (o29 o30 o31 o32 : Nat → Int32) (o : Nat → Nat → Int32), F_x8_fix u0 r i1 i10 i11 a29 a30 a31 a32 (F_x7_keepVote V h r og) = (o11, o29, o30, o31, o32, o) ∧ o 7 r = (2 : Int32) ∧
    RSTT i3 i10 b12 b34 b49 b50 og o11 o29 o30 o31 o32 o (F_m12_tells (b34 r) u0 i1 j18 b51 b52 b53).1 (if (a29 W).toInt = -1 then upd b35 r (2 : Int32) else upd (upd b35 r (2 : Int32)) (a29 W).toNatClampNeg (4 : Int32)) (upd b43 r i1) (upd b44 (2 * r + 1) y) (upd b45 (2 * r + 1) n) (upd b46 (2 * r + 1) h) A B (F_m12_tells (b34 r) u0 i1 j18 b51 b52 b53).2.1 (F_m12_tells (b34 r) u0 i1 j18 b51 b52 b53).2.2.1 (F_m12_tells (b34 r) u0 i1 j18 b51 b52 b53).2.2.2 := by
  have es : (F_x7_stage r og).toNatClampNeg = 1 := by rw [hst]; exact nc ht
  have k78 : ∀ f j, f < 9 → F_x7_keepVote V h r og f j = og f j := by
    intro f j hf
    rw [E_x7_keepVote, up2_f (by omega), up2_f (by omega), up2_f (by omega)]
  obtain ⟨s7, s8, s1, s2, s3⟩ := hS.1 r hr
  have T := TEL_add (d := i1) (v := b34 r) (R := u0) hE hE2 h11 s2 (Or.inr (by omega))
  have et : F_m12_tells (b34 r) u0 i1 j18 b51 b52 b53 = (j18 + 1, upd b51 j18.toNatClampNeg (b34 r), upd b52 j18.toNatClampNeg u0, upd b53 j18.toNatClampNeg i1) := rfl
  have two : (2 : Int32).toInt = 2 := by decide
  have four : (4 : Int32).toInt = 4 := by decide
  rw [et, E_x8_fix, E_x7_verseNumber, k78 1 r (by decide), h1]
  have en : ∀ o : Nat → Nat → Int32, F_x7_becomeFixed i1 r o = up2 (up2 o 7 r (2 : Int32)) 8 r i1 := fun _ => rfl
  have ev : ∀ o : Nat → Nat → Int32, F_x7_verseNumber r o = o 1 r := fun _ => rfl
  rcases fxa hv hW hX with ⟨g1, g⟩ | ⟨q, g1, g2, g3, g4, g⟩
  · rw [g, if_pos rfl, if_pos g1, en, ev, up2_f (a := 1) (by decide), up2_f (a := 1) (by decide), k78 1 r (by decide), h1, set_of hv hW h11]
    refine ⟨_, _, _, _, _, _, rfl, by rw [up2_f (a := 7) (by decide), up2_same], ?_⟩
    have K := keep_ok (c35 := upd b35 r (2 : Int32)) (og2 := up2 (up2 (F_x7_keepVote V h r og) 7 r (2 : Int32)) 8 r i1) hr h200 ht (Nat.le_refl 1) hst hK hT hB hh hy hn (fun f j h7 h8 => by rw [up2_f h8, up2_f h7]) (fun p hp e => Or.inl (upd_n e)) (by rw [upd_s]; omega) hA hAB
    have R1_ := RNS_st (x := (2 : Int32)) (og1 := F_x7_keepVote V h r og) hS hr (fun f j hf => k78 f j (by omega)) (by omega) (fun z => by omega)
    have R2_ := RNS_day (d := i1) (r := r) R1_ (by rw [upd_s]; omega)
    refine ⟨R2_, K.1, K.2.1, K.2.2, fun w hw => ?_, T.1, T.2, fun f j hf => ?_⟩
    · dsimp only
      by_cases e : w = W
      · subst e
        rw [upd_s]
        refine Or.inr ⟨r, hr, hu, hv, by rw [upd_s]; exact two, fun p hp hp2 hp3 => ?_⟩
        by_cases e2 : p = r
        · exact e2
        · rw [upd_n e2] at hp3
          rcases hX w hw with ⟨-, f2⟩ | ⟨p0, f1, f2, -⟩
          · exact absurd hp3 (f2 p hp hp2)
          · omega
      · rw [upd_n e]
        rcases hX w hw with ⟨f1, f2⟩ | ⟨p0, f1, f2, f3, f4, f5⟩
        · refine Or.inl ⟨f1, fun p hp hp2 => ?_⟩
          have e2 : p ≠ r := fun e2 => by subst e2; omega
          rw [upd_n e2]; exact f2 p hp hp2
        · have e2 : p0 ≠ r := fun e2 => by subst e2; omega
          refine Or.inr ⟨p0, f1, f2, f3, by rw [upd_n e2]; exact f4, fun p hp hp2 hp3 => ?_⟩
          have e3 : p ≠ r := fun e3 => by subst e3; omega
          rw [upd_n e3] at hp3; exact f5 p hp hp2 hp3
    · rw [up2_f (by omega), up2_f (by omega)]; exact k78 f j (by omega)
  · have qr : q ≠ r := fun e => by subst e; omega
    rw [g, if_neg (Nat.succ_ne_zero q), if_neg (show ¬ (a29 W).toInt = -1 by omega), Nat.add_sub_cancel, nc g2, E_x7_enterState, en, ev, up2_f (a := 1) (by decide), up2_f (a := 1) (by decide), up2_f (a := 1) (by decide), k78 1 r (by decide), h1, set_of hv hW h11]
    refine ⟨_, _, _, _, _, _, rfl, by rw [up2_f (a := 7) (by decide), up2_same], ?_⟩
    have K := keep_ok (c35 := upd (upd b35 r (2 : Int32)) q (4 : Int32)) (og2 := up2 (up2 (up2 (F_x7_keepVote V h r og) 7 q (4 : Int32)) 7 r (2 : Int32)) 8 r i1) hr h200 ht (Nat.le_refl 1) hst hK hT hB hh hy hn (fun f j h7 h8 => by rw [up2_f h8, up2_f h7, up2_f h7]) (fun p hp e => by
      by_cases e2 : p = q
      · subst e2; rw [upd_s]; exact Or.inr four
      · rw [upd_n e2, upd_n e]; exact Or.inl rfl) (by rw [upd_n qr.symm, upd_s]; omega) hA hAB
    have R0_ := RNS_st (x := (4 : Int32)) (og1 := F_x7_keepVote V h r og) hS g1 (fun f j hf => k78 f j (by omega)) (by omega) (fun z => by omega)
    have R1_ := RNS_st (x := (2 : Int32)) (r := r) R0_ hr (fun f j hf => rfl) (by omega) (fun z => by omega)
    have R2_ := RNS_day (d := i1) (r := r) R1_ (by rw [upd_s]; omega)
    have sw : upd (upd b35 r (2 : Int32)) q (4 : Int32) = upd (upd b35 q (4 : Int32)) r (2 : Int32) := by
      funext j
      unfold upd
      by_cases e : j = q
      · rw [if_pos e, if_neg (by omega), if_pos e]
      · rw [if_neg e]
        by_cases e2 : j = r
        · rw [if_pos e2, if_pos e2]
        · rw [if_neg e2, if_neg e2, if_neg e]
    refine ⟨by rw [sw]; exact R2_, K.1, K.2.1, K.2.2, fun w hw => ?_, T.1, T.2, fun f j hf => ?_⟩
    · dsimp only
      by_cases e : w = W
      · subst e
        rw [upd_s]
        refine Or.inr ⟨r, hr, hu, hv, by rw [upd_n qr.symm, upd_s]; exact two, fun p hp hp2 hp3 => ?_⟩
        by_cases e2 : p = r
        · exact e2
        · by_cases e3 : p = q
          · subst e3; rw [upd_s] at hp3; omega
          · rw [upd_n e3, upd_n e2] at hp3
            rcases hX w hw with ⟨-, f2⟩ | ⟨p0, f1, f2, f3, f4, f5⟩
            · exact absurd hp3 (f2 p hp hp2)
            · have := f5 p hp hp2 hp3
              have := f5 q g1 g3 g4
              omega
      · rw [upd_n e]
        have oth : ∀ p : Nat, (b34 p).toInt = (w : Int) → p ≠ r ∧ p ≠ q := fun p hp => ⟨fun e2 => by subst e2; omega, fun e2 => by subst e2; omega⟩
        rcases hX w hw with ⟨f1, f2⟩ | ⟨p0, f1, f2, f3, f4, f5⟩
        · refine Or.inl ⟨f1, fun p hp hp2 => ?_⟩
          rw [upd_n (oth p hp2).2, upd_n (oth p hp2).1]; exact f2 p hp hp2
        · refine Or.inr ⟨p0, f1, f2, f3, by rw [upd_n (oth p0 f3).2, upd_n (oth p0 f3).1]; exact f4, fun p hp hp2 hp3 => ?_⟩
          rw [upd_n (oth p hp2).2, upd_n (oth p hp2).1] at hp3; exact f5 p hp hp2 hp3
    · rw [up2_f (by omega), up2_f (by omega), up2_f (by omega)]; exact k78 f j (by omega)
end CLOSEX
