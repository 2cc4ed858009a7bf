/-! VOID, on both sides: the loop -/
def VSP (X : Nat) (i3 i10 : Int32) (c12 d12 b34 b48 b49 b50 : Nat → Int32) (og0 : Nat → Nat → Int32) (x : Int32 × (Nat → Int32) × (Nat → Int32) × (Nat → Int32) × (Nat → Int32) × (Nat → Nat → Int32)) (m : Int32 × (Nat → Int32) × (Nat → Int32) × (Nat → Int32) × (Nat → Int32) × (Nat → Int32) × (Nat → Int32) × (Nat → Int32) × (Nat → Int32) × (Nat → Int32)) : Prop :=
  VS2 X i3 i10 c12 d12 b34 b48 b49 b50 og0 x.1 x.2.1 x.2.2.1 x.2.2.2.1 x.2.2.2.2.1 x.2.2.2.2.2 m.1 m.2.1 m.2.2.1 m.2.2.2.1 m.2.2.2.2.1 m.2.2.2.2.2.1 m.2.2.2.2.2.2.1 m.2.2.2.2.2.2.2.1 m.2.2.2.2.2.2.2.2.1 m.2.2.2.2.2.2.2.2.2
/-- what the class does with one RENDERING -/
def XW1 (u0 i1 : Int32) (r : Nat) (i11 : Int32) (a29 a30 a31 a32 : Nat → Int32) (og : Nat → Nat → Int32) : Int32 × (Int32 × (Nat → Int32) × (Nat → Int32) × (Nat → Int32) × (Nat → Int32) × (Nat → Nat → Int32)) :=
  if ((F_x7_takeOut u0 r og).1).toInt ≠ (-1) then (if (F_x7_stateNumber r (F_x7_takeOut u0 r og).2).toInt ≠ 2 then ((1 : Int32), i11, a29, a30, a31, a32, F_x7_goBack (F_x7_takeOut u0 r og).1 r (F_x7_takeOut u0 r og).2)
    else ((1 : Int32), (F_x8_setFixed (F_x7_verseNumber r (F_x7_takeOut u0 r og).2) (-1 : Int32) i1 i11 a29 a30 a31 a32).1, (F_x8_setFixed (F_x7_verseNumber r (F_x7_takeOut u0 r og).2) (-1 : Int32) i1 i11 a29 a30 a31 a32).2.1, (F_x8_setFixed (F_x7_verseNumber r (F_x7_takeOut u0 r og).2) (-1 : Int32) i1 i11 a29 a30 a31 a32).2.2.1, (F_x8_setFixed (F_x7_verseNumber r (F_x7_takeOut u0 r og).2) (-1 : Int32) i1 i11 a29 a30 a31 a32).2.2.2.1, (F_x8_setFixed (F_x7_verseNumber r (F_x7_takeOut u0 r og).2) (-1 : Int32) i1 i11 a29 a30 a31 a32).2.2.2.2, F_x7_goBack (F_x7_takeOut u0 r og).1 r (F_x7_takeOut u0 r og).2))
  else ((0 : Int32), i11, a29, a30, a31, a32, (F_x7_takeOut u0 r og).2)
theorem xw_step {u0 i1 i10 n x i11 : Int32} {a29 a30 a31 a32 : Nat → Int32} {og : Nat → Nat → Int32} {f r : Nat} (hx : x.toInt = (r : Int)) (hr : ¬ x.toInt ≥ i10.toInt) : f_x8_withdraw_j1 u0 i1 i10 (f + 1) n x i11 a29 a30 a31 a32 og = f_x8_withdraw_j1 u0 i1 i10 f (n + (XW1 u0 i1 r i11 a29 a30 a31 a32 og).1) (x + Int32.ofInt 1) (XW1 u0 i1 r i11 a29 a30 a31 a32 og).2.1 (XW1 u0 i1 r i11 a29 a30 a31 a32 og).2.2.1 (XW1 u0 i1 r i11 a29 a30 a31 a32 og).2.2.2.1 (XW1 u0 i1 r i11 a29 a30 a31 a32 og).2.2.2.2.1 (XW1 u0 i1 r i11 a29 a30 a31 a32 og).2.2.2.2.2.1 (XW1 u0 i1 r i11 a29 a30 a31 a32 og).2.2.2.2.2.2 := by
  have e1 : Int32.ofInt 1 = (1 : Int32) := by decide
  have e0 : n + (0 : Int32) = n := by
    have h := i32_all n
    exact eq_of_toInt (by have := toInt_add (x := n) rfl c0 (by omega) (by omega); omega)
  rw [S_x8_withdraw_j1, if_neg hr, nc hx]
  unfold XW1
  by_cases w : ((F_x7_takeOut u0 r og).1).toInt ≠ (-1)
  · rw [if_pos w, if_pos w]
    by_cases w2 : (F_x7_stateNumber r (F_x7_takeOut u0 r og).2).toInt ≠ 2
    · rw [if_pos w2, if_pos w2, e1]
    · rw [if_neg w2, if_neg w2, e1]
  · rw [if_neg w, if_neg w, e0]
section VOIDM
variable {u0 P i1 i3 i10 i11 j18 : Int32} {c12 d12 a29 a30 a31 a32 b34 b35 b43 b44 b45 b46 b47 b48 b49 b50 b51 b52 b53 : Nat → Int32} {og og0 : Nat → Nat → Int32} {r s : Nat}
theorem vd_one (hP : P.toInt = (r : Int)) (hr : (r : Int) < i10.toInt) (h200 : i10.toInt ≤ 200) (hi3 : i3.toInt ≤ 60) (hu : u0.toInt = (s : Int)) (hs : s < 24) (hs12 : (c12 s).toInt = 0) (h1 : og 1 r = b34 r) (hd : ∀ q, q < 24 → (d12 q).toInt = 0 → (c12 q).toInt = 0 ∧ q ≠ s) (h : VS2 r i3 i10 c12 d12 b34 b48 b49 b50 og0 i11 a29 a30 a31 a32 og j18 b35 b43 b44 b45 b46 b47 b51 b52 b53) :
    (XW1 u0 i1 r i11 a29 a30 a31 a32 og).1 = (F_m12_goesBack P u0 i1 j18 b34 b35 b43 b44 b45 b46 b47 b48 b51 b52 b53).1 ∧ ((XW1 u0 i1 r i11 a29 a30 a31 a32 og).1 = 0 ∨ (XW1 u0 i1 r i11 a29 a30 a31 a32 og).1 = 1) ∧ VSP (r + 1) i3 i10 c12 d12 b34 b48 b49 b50 og0 (XW1 u0 i1 r i11 a29 a30 a31 a32 og).2 (F_m12_goesBack P u0 i1 j18 b34 b35 b43 b44 b45 b46 b47 b48 b51 b52 b53).2 := by
  have hV := h
  obtain ⟨v1, v2, v3, v4, v5, v6, v7, v8, v9⟩ := h
  obtain ⟨s7, s8, s1, s2, s3⟩ := v1.1 r hr
  have st := (v4 r hr).1 (Nat.le_refl r)
  have k0 := (ix20 hP (by omega)).2
  have k1 := (ix2 hP c1 (by omega) (by omega) (i := 1)).2
  have bitk : ∀ k, SB c12 (b47 k) (b48 k) (b49 k) (b50 k) → bitI (b47 k) s = bitI (b49 k) s ∧ (bitI (b47 k) s = true → bitI (b48 k) s = bitI (b50 k) s) := fun k hk => hk s hs hs12
  have keep : ∀ k : Nat, (k : Int) < 2 * i10.toInt → (b46 k).toInt ≠ -1 → og 11 k = b44 k ∧ og 12 k = b45 k ∧ og 13 k = b46 k := fun k hk h46 => by
    rcases v2 k hk with ⟨f1, -⟩ | ⟨-, f2, f3, f4⟩
    · exact absurd f1 h46
    · exact ⟨f2, f3, f4⟩
  -- what is kept where only the kept counts of the places k have changed
  have KP : ∀ (o : Nat → Nat → Int32) (c44 c45 : Nat → Int32), (∀ f j, f ≠ 11 → f ≠ 12 → o f j = og f j) → (∀ j : Nat, (j : Int) < 2 * i10.toInt → (o 11 j = og 11 j ∧ o 12 j = og 12 j ∧ c44 j = b44 j ∧ c45 j = b45 j) ∨ ((b46 j).toInt ≠ -1 ∧ o 11 j = c44 j ∧ o 12 j = c45 j)) → KEP i10 o c44 c45 b46 := by
    intro o c44 c45 ho hj j hj1
    rw [ho 13 j (by decide) (by decide)]
    rcases hj j hj1 with ⟨f1, f2, f3, f4⟩ | ⟨f1, f2, f3⟩
    · rw [f1, f2, f3, f4]; exact v2 j hj1
    · exact Or.inr ⟨f1, f2, f3, (keep j hj1 f1).2.2⟩
  unfold XW1
  rw [E_m12_goesBack, nc hP, E_x7_takeOut, s7]
  by_cases w1 : (b35 r).toInt = 1
  · obtain ⟨p1, p2⟩ := st.1 (Or.inl w1)
    obtain ⟨f1, f2, f3⟩ := keep (2 * r) (by omega) p1
    obtain ⟨q9, q10⟩ := v3.1 (2 * r) (by omega)
    have S := sw_of (og := og) (b44 := b44) (b45 := b45) (r := r) (t := 0) (k := 2 * r) hu hs (show (0 : Int32).toInt = ((0 : Nat) : Int) from rfl) rfl k0 p1 f1 f2 f3 q9 q10 (bitk _ p2).1 (bitk _ p2).2
    rw [if_pos w1, if_pos w1, E_x7_takeOut_j2, E_m12_goesBack_j3, nc hP, if_pos w1, E_m12_goesBack_j74, E_m12_goesBack_j17]
    generalize F_x7_standsWithout (0 : Int32) ((1 : Int32) <<< (u0 &&& 31)) r og = X at S ⊢
    generalize F_m12_goesWithout ((2 : Int32) * P) u0 b44 b45 b46 b47 b48 = M at S ⊢
    obtain ⟨w, o⟩ := X
    obtain ⟨w', c44, c45, c47⟩ := M
    obtain ⟨e0, e1, e2, e3, e4, e5, e6⟩ := S
    replace e0 : w = w' := e0
    subst e0
    replace e1 : w = 0 ∨ w = 1 := e1
    replace e2 : ∀ f j, ¬ (j = 2 * r ∧ (f = 11 ∨ f = 12)) → o f j = og f j := e2
    replace e3 : o 11 (2 * r) = c44 (2 * r) := e3
    replace e4 : o 12 (2 * r) = c45 (2 * r) := e4
    replace e5 : ∀ j, j ≠ 2 * r → c44 j = b44 j ∧ c45 j = b45 j ∧ c47 j = b47 j := e5
    replace e6 : ∀ q, q ≠ s → q < 24 → bitI (c47 (2 * r)) q = bitI (b47 (2 * r)) q := e6
    have o7 : o 7 r = b35 r := (e2 7 r (fun z => by omega)).trans s7
    show _ ∧ _ ∧ _
    rcases e1 with e1 | e1
    · subst e1
      dsimp only
      rw [if_neg n00]
      dsimp only
      rw [if_pos (show (0 : Int32).toInt ≠ -1 by decide), if_pos (show (F_x7_stateNumber r o).toInt ≠ 2 by rw [E_x7_stateNumber, o7]; omega), if_pos c0, E_m12_goesBack_j23, if_neg n00, E_m12_unfixes, nc hP, if_neg (show ¬ (b35 r).toInt = 2 by omega), k1, k0, E_x7_goBack, if_neg n00, show ((1 : Int32)).toNatClampNeg = 1 from rfl, show ((0 : Int32)).toNatClampNeg = 0 from rfl]
      refine ⟨rfl, Or.inr rfl, ?_⟩
      have b8 := s3 (by omega)
      refine vd_back (og' := up2 (up2 (up2 (up2 o 7 r (0 : Int32)) 8 r (-1 : Int32)) 11 (2 * r + 1) (-1 : Int32)) 11 (2 * r + 0) (-1 : Int32)) (s := s) (x := (0 : Int32)) hr h200 hV hd (Or.inl ⟨c0, Or.inl w1⟩) ?_ ?_ (fun f j h11 h12 hjf => ?_) (fun j hj0 hj1 => ?_) ⟨?_, ?_⟩ (Or.inl ⟨c0, ?_, ?_⟩) (fun j _ => rfl) b8 (Or.inl ⟨w1, rfl, rfl, rfl, rfl, rfl, rfl, rfl, rfl, rfl⟩)
      · try dsimp only
        rw [up2_f (by decide), up2_f (by decide), up2_f (by decide), up2_same]
      · try dsimp only
        rw [up2_f (by decide), up2_f (by decide), up2_same]
      · try dsimp only
        rw [up2_f h11, up2_f h11]
        by_cases g8 : f = 8
        · subst g8; rw [up2_j (fun z => hjf ⟨z, Or.inr rfl⟩), up2_f (by decide)]; exact e2 _ _ (fun z => by omega)
        · try dsimp only
          rw [up2_f g8]
          by_cases g7 : f = 7
          · subst g7; rw [up2_j (fun z => hjf ⟨z, Or.inl rfl⟩)]; exact e2 _ _ (fun z => by omega)
          · try dsimp only
            rw [up2_f g7]; exact e2 _ _ (fun z => by omega)
      · try dsimp only
        rw [up2_j (by omega), up2_j (by omega), up2_f (a := 11) (by decide), up2_f (a := 11) (by decide), up2_f (a := 12) (by decide), up2_f (a := 12) (by decide), up2_f (a := 12) (by decide), up2_f (a := 12) (by decide), e2 11 j (fun z => hj0 z.1), e2 12 j (fun z => hj0 z.1), upd_n hj0, upd_n hj1]
        exact ⟨rfl, rfl, (e5 j hj0).1, (e5 j hj0).2.1, (e5 j hj0).2.2, rfl⟩
      · try dsimp only
        rw [upd_n (by omega), upd_s]; decide
      · try dsimp only
        rw [up2_j (by omega), up2_same]; decide
      · try dsimp only
        rw [upd_s]; decide
      · try dsimp only
        rw [show 2 * r + 0 = 2 * r from rfl, up2_same]; decide
    · subst e1
      dsimp only
      rw [if_pos y10, if_pos (show (o 7 r).toInt ≠ 2 by rw [o7]; omega)]
      dsimp only
      rw [if_neg (show ¬ ((-1 : Int32).toInt ≠ -1) from fun z => z rfl), if_neg n10, if_neg n10]
      refine ⟨rfl, Or.inl rfl, ?_⟩
      exact vd_stay (s := s) hr hV hd (fun f j h11 h12 => e2 f j (fun z => by omega)) (KP o c44 c45 (fun f j h11 h12 => e2 f j (fun z => by omega)) (fun j hj => by
        by_cases z : j = 2 * r
        · subst z; exact Or.inr ⟨p1, e3, e4⟩
        · exact Or.inl ⟨e2 11 j (fun y => z y.1), e2 12 j (fun y => z y.1), (e5 j z).1, (e5 j z).2.1⟩)) (fun j hj _ => (e5 j hj).2.2) (fun j q hq hq2 => by
        by_cases z : j = 2 * r
        · subst z; exact e6 q hq hq2
        · show bitI (c47 j) q = _; rw [(e5 j z).2.2])
  · rw [if_neg w1, if_neg w1]
    by_cases w2 : (b35 r).toInt = 2
    · obtain ⟨p1, p2⟩ := st.1 (Or.inr w2)
      obtain ⟨p3, p4⟩ := st.2 w2
      obtain ⟨f1, f2, f3⟩ := keep (2 * r) (by omega) p1
      obtain ⟨g1, g2, g3⟩ := keep (2 * r + 1) (by omega) p3
      obtain ⟨q9, q10⟩ := v3.1 (2 * r) (by omega)
      obtain ⟨y9, y10_⟩ := v3.1 (2 * r + 1) (by omega)
      have S := sw_of (og := og) (b44 := b44) (b45 := b45) (r := r) (t := 0) (k := 2 * r) hu hs (show (0 : Int32).toInt = ((0 : Nat) : Int) from rfl) rfl k0 p1 f1 f2 f3 q9 q10 (bitk _ p2).1 (bitk _ p2).2
      rw [if_pos w2, if_pos w2, E_x7_takeOut_j2, E_m12_goesBack_j3, nc hP, if_neg w1]
      generalize F_x7_standsWithout (0 : Int32) ((1 : Int32) <<< (u0 &&& 31)) r og = X at S ⊢
      generalize F_m12_goesWithout ((2 : Int32) * P) u0 b44 b45 b46 b47 b48 = M at S ⊢
      obtain ⟨w, o⟩ := X
      obtain ⟨w', c44, c45, c47⟩ := M
      obtain ⟨e0, e1, e2, e3, e4, e5, e6⟩ := S
      replace e0 : w = w' := e0
      subst e0
      replace e1 : w = 0 ∨ w = 1 := e1
      replace e2 : ∀ f j, ¬ (j = 2 * r ∧ (f = 11 ∨ f = 12)) → o f j = og f j := e2
      replace e3 : o 11 (2 * r) = c44 (2 * r) := e3
      replace e4 : o 12 (2 * r) = c45 (2 * r) := e4
      replace e5 : ∀ j, j ≠ 2 * r → c44 j = b44 j ∧ c45 j = b45 j ∧ c47 j = b47 j := e5
      replace e6 : ∀ q, q ≠ s → q < 24 → bitI (c47 (2 * r)) q = bitI (b47 (2 * r)) q := e6
      have o7 : o 7 r = b35 r := (e2 7 r (fun z => by omega)).trans s7
      have n1 : 2 * r + 1 ≠ 2 * r := by omega
      have S2 := sw_of (og := o) (b44 := c44) (b45 := c45) (b46 := b46) (b47 := c47) (b48 := b48) (b49 := b49) (b50 := b50) (r := r) (t := 1) (k := 2 * r + 1) hu hs (show (1 : Int32).toInt = ((1 : Nat) : Int) from rfl) rfl k1 p3 (by rw [e2 _ _ (fun z => n1 z.1), (e5 _ n1).1]; exact g1) (by rw [e2 _ _ (fun z => n1 z.1), (e5 _ n1).2.1]; exact g2) (by rw [e2 _ _ (fun z => n1 z.1)]; exact g3) (by rw [e2 _ _ (fun z => n1 z.1)]; exact y9) (by rw [e2 _ _ (fun z => n1 z.1)]; exact y10_) (by rw [(e5 _ n1).2.2]; exact (bitk _ p4).1) (by rw [(e5 _ n1).2.2]; exact (bitk _ p4).2)
      obtain ⟨W, hW, hW2⟩ : ∃ W : Nat, (b34 r).toInt = (W : Int) ∧ W < 60 := ⟨(b34 r).toInt.toNat, by omega, by omega⟩
      have cpos := cntF_pos (upd b35 (Int32.ofNat r).toNatClampNeg (0 : Int32))
      have er : (Int32.ofNat r).toInt = (r : Int) := nI_toInt (by omega)
      have cp := cnt_put (a := b35) (z := Int32.ofNat r) (v := (0 : Int32)) (i := (r : Int)) rfl er (by omega) (by omega)
      rw [show ((r : Int)).toNat = r by omega, isF_2 w2, isF_n (show ¬ (0 : Int32).toInt = 2 by decide)] at cp
      have e18 : i11 = j18 := v6.1
      have h11 : i11.toInt < 1024 := by rw [e18]; omega
      have T := TEL_add (d := i1) (v := b34 r) (R := (-1 : Int32)) v6 v7 h11 s2 (Or.inl sm1)
      have ev : ∀ o2 : Nat → Nat → Int32, (o2 1 r = b34 r) → F_x8_setFixed (F_x7_verseNumber r o2) (-1 : Int32) i1 i11 a29 a30 a31 a32 = (i11 + 1, upd a29 W (-1 : Int32), upd a30 i11.toNatClampNeg (b34 r), upd a31 i11.toNatClampNeg i1, upd a32 i11.toNatClampNeg (-1 : Int32)) := fun o2 ho2 => by
        rw [E_x7_verseNumber, ho2]; exact set_of hW hW2 h11
      have un : F_m12_unfixes P i1 j18 b34 b35 b43 b51 b52 b53 = (j18 + 1, upd b43 r (-1 : Int32), upd b51 j18.toNatClampNeg (b34 r), upd b52 j18.toNatClampNeg (-1 : Int32), upd b53 j18.toNatClampNeg i1) := by
        rw [E_m12_unfixes, nc hP, if_pos w2, E_m12_tells]
      simp only [un]
      generalize F_x7_standsWithout (1 : Int32) ((1 : Int32) <<< (u0 &&& 31)) r o = X2 at S2 ⊢
      generalize F_m12_goesWithout (((2 : Int32) * P) + (1 : Int32)) u0 c44 c45 b46 c47 b48 = M2 at S2 ⊢
      obtain ⟨x, o'⟩ := X2
      obtain ⟨x', d44, d45, d47⟩ := M2
      obtain ⟨l0, l1, l2, l3, l4, l5, l6⟩ := S2
      replace l0 : x = x' := l0
      subst l0
      replace l1 : x = 0 ∨ x = 1 := l1
      replace l2 : ∀ f j, ¬ (j = 2 * r + 1 ∧ (f = 11 ∨ f = 12)) → o' f j = o f j := l2
      replace l3 : o' 11 (2 * r + 1) = d44 (2 * r + 1) := l3
      replace l4 : o' 12 (2 * r + 1) = d45 (2 * r + 1) := l4
      replace l5 : ∀ j, j ≠ 2 * r + 1 → d44 j = c44 j ∧ d45 j = c45 j ∧ d47 j = c47 j := l5
      replace l6 : ∀ q, q ≠ s → q < 24 → bitI (d47 (2 * r + 1)) q = bitI (c47 (2 * r + 1)) q := l6
      have o1 : o 1 r = b34 r := (e2 1 r (fun z => by omega)).trans h1
      have o1' : o' 1 r = b34 r := (l2 1 r (fun z => by omega)).trans o1
      have o7' : o' 7 r = b35 r := (l2 7 r (fun z => by omega)).trans o7
      have n0 : 2 * r ≠ 2 * r + 1 := by omega
      rcases e1 with e1 | e1
      · -- stage 0 falls
        subst e1
        have B : VSP (r + 1) i3 i10 c12 d12 b34 b48 b49 b50 og0 (i11 + 1, upd a29 W (-1 : Int32), upd a30 i11.toNatClampNeg (b34 r), upd a31 i11.toNatClampNeg i1, upd a32 i11.toNatClampNeg (-1 : Int32), up2 (up2 (up2 (up2 o 7 r (0 : Int32)) 8 r (-1 : Int32)) 11 (2 * r + 1) (-1 : Int32)) 11 (2 * r + 0) (-1 : Int32)) (j18 + 1, upd b35 r (0 : Int32), upd b43 r (-1 : Int32), d44, d45, upd (upd b46 (2 * r + 1) (-1 : Int32)) (2 * r) (-1 : Int32), d47, upd b51 j18.toNatClampNeg (b34 r), upd b52 j18.toNatClampNeg (-1 : Int32), upd b53 j18.toNatClampNeg i1) := by
          refine vd_back (og' := up2 (up2 (up2 (up2 o 7 r (0 : Int32)) 8 r (-1 : Int32)) 11 (2 * r + 1) (-1 : Int32)) 11 (2 * r + 0) (-1 : Int32)) (s := s) (x := (0 : Int32)) hr h200 hV hd (Or.inl ⟨c0, Or.inr w2⟩) ?_ ?_ (fun f j h11 h12 hjf => ?_) (fun j hj0 hj1 => ?_) ⟨?_, ?_⟩ (Or.inl ⟨c0, ?_, ?_⟩) (fun j hj => upd_n hj) (by dsimp only; rw [upd_s]; decide) (Or.inr ⟨w2, by rw [nc hW], rfl, T.1, T.2⟩)
          · try dsimp only
            rw [up2_f (by decide), up2_f (by decide), up2_f (by decide), up2_same]
          · try dsimp only
            rw [up2_f (by decide), up2_f (by decide), up2_same]
          · try dsimp only
            rw [up2_f h11, up2_f h11]
            by_cases g8 : f = 8
            · subst g8; rw [up2_j (fun z => hjf ⟨z, Or.inr rfl⟩), up2_f (by decide)]; exact e2 _ _ (fun z => by omega)
            · try dsimp only
              rw [up2_f g8]
              by_cases g7 : f = 7
              · subst g7; rw [up2_j (fun z => hjf ⟨z, Or.inl rfl⟩)]; exact e2 _ _ (fun z => by omega)
              · try dsimp only
                rw [up2_f g7]; exact e2 _ _ (fun z => by omega)
          · try dsimp only
            rw [up2_j (by omega), up2_j (by omega), up2_f (a := 11) (by decide), up2_f (a := 11) (by decide), up2_f (a := 12) (by decide), up2_f (a := 12) (by decide), up2_f (a := 12) (by decide), up2_f (a := 12) (by decide), e2 11 j (fun z => hj0 z.1), e2 12 j (fun z => hj0 z.1), upd_n hj0, upd_n hj1, (l5 j hj1).1, (l5 j hj1).2.1, (l5 j hj1).2.2]
            exact ⟨rfl, rfl, (e5 j hj0).1, (e5 j hj0).2.1, (e5 j hj0).2.2, rfl⟩
          · try dsimp only
            rw [upd_n (by omega), upd_s]; decide
          · try dsimp only
            rw [up2_j (by omega), up2_same]; decide
          · try dsimp only
            rw [upd_s]; decide
          · try dsimp only
            rw [show 2 * r + 0 = 2 * r from rfl, up2_same]; decide
        dsimp only
        rw [if_neg n00]
        dsimp only
        rw [if_pos (show (0 : Int32).toInt ≠ -1 by decide), if_neg (show ¬ (F_x7_stateNumber r o).toInt ≠ 2 by rw [E_x7_stateNumber, o7]; omega), ev o o1, E_x7_goBack, if_neg n00, show ((1 : Int32)).toNatClampNeg = 1 from rfl, show ((0 : Int32)).toNatClampNeg = 0 from rfl]
        have mB : ∀ y : Int32, f_m12_goesBack_j17 P i1 j18 b34 b35 b43 b46 b51 b52 b53 (0 : Int32) y d44 d45 d47 = ((1 : Int32), j18 + 1, upd b35 r (0 : Int32), upd b43 r (-1 : Int32), d44, d45, upd (upd b46 (2 * r + 1) (-1 : Int32)) (2 * r) (-1 : Int32), d47, upd b51 j18.toNatClampNeg (b34 r), upd b52 j18.toNatClampNeg (-1 : Int32), upd b53 j18.toNatClampNeg i1) := fun y => by
          rw [E_m12_goesBack_j17, if_pos c0, E_m12_goesBack_j23, if_neg n00, un, nc hP, k1, k0]
        rcases l1 with l1 | l1
        · subst l1
          rw [if_pos c0, mB]
          exact ⟨rfl, Or.inr rfl, B⟩
        · subst l1
          rw [if_neg n10, E_m12_goesBack_j74, mB]
          exact ⟨rfl, Or.inr rfl, B⟩
      · subst e1
        dsimp only
        rw [if_pos y10, if_neg (show ¬ (o 7 r).toInt ≠ 2 by rw [o7]; omega)]
        rcases l1 with l1 | l1
        · -- stage 1 falls alone
          subst l1
          have B : VSP (r + 1) i3 i10 c12 d12 b34 b48 b49 b50 og0 (i11 + 1, upd a29 W (-1 : Int32), upd a30 i11.toNatClampNeg (b34 r), upd a31 i11.toNatClampNeg i1, upd a32 i11.toNatClampNeg (-1 : Int32), up2 (up2 (up2 o' 7 r (1 : Int32)) 8 r (-1 : Int32)) 11 (2 * r + 1) (-1 : Int32)) (j18 + 1, upd b35 r (1 : Int32), upd b43 r (-1 : Int32), d44, d45, upd b46 (2 * r + 1) (-1 : Int32), d47, upd b51 j18.toNatClampNeg (b34 r), upd b52 j18.toNatClampNeg (-1 : Int32), upd b53 j18.toNatClampNeg i1) := by
            refine vd_back (og' := up2 (up2 (up2 o' 7 r (1 : Int32)) 8 r (-1 : Int32)) 11 (2 * r + 1) (-1 : Int32)) (s := s) (x := (1 : Int32)) hr h200 hV hd (Or.inr ⟨c1, w2⟩) ?_ ?_ (fun f j h11 h12 hjf => ?_) (fun j hj0 hj1 => ?_) ⟨?_, ?_⟩ (Or.inr ⟨c1, ?_, ?_, ?_, ?_⟩) (fun j hj => upd_n hj) (by dsimp only; rw [upd_s]; decide) (Or.inr ⟨w2, by rw [nc hW], rfl, T.1, T.2⟩)
            · try dsimp only
              rw [up2_f (by decide), up2_f (by decide), up2_same]
            · try dsimp only
              rw [up2_f (by decide), up2_same]
            · try dsimp only
              rw [up2_f h11]
              by_cases g8 : f = 8
              · subst g8; rw [up2_j (fun z => hjf ⟨z, Or.inr rfl⟩), up2_f (by decide), l2 _ _ (fun z => by omega)]; exact e2 _ _ (fun z => by omega)
              · try dsimp only
                rw [up2_f g8]
                by_cases g7 : f = 7
                · subst g7; rw [up2_j (fun z => hjf ⟨z, Or.inl rfl⟩), l2 _ _ (fun z => by omega)]; exact e2 _ _ (fun z => by omega)
                · try dsimp only
                  rw [up2_f g7, l2 _ _ (fun z => by omega)]; exact e2 _ _ (fun z => by omega)
            · try dsimp only
              rw [up2_j hj1, up2_f (a := 11) (by decide), up2_f (a := 11) (by decide), up2_f (a := 12) (by decide), up2_f (a := 12) (by decide), up2_f (a := 12) (by decide), l2 11 j (fun z => hj1 z.1), l2 12 j (fun z => hj1 z.1), e2 11 j (fun z => hj0 z.1), e2 12 j (fun z => hj0 z.1), upd_n hj1, (l5 j hj1).1, (l5 j hj1).2.1, (l5 j hj1).2.2]
              exact ⟨rfl, rfl, (e5 j hj0).1, (e5 j hj0).2.1, (e5 j hj0).2.2, rfl⟩
            · try dsimp only
              rw [upd_s]; decide
            · try dsimp only
              rw [up2_same]; decide
            · try dsimp only
              rw [upd_n n0]
            · try dsimp only
              rw [up2_j n0, up2_f (a := 11) (by decide), up2_f (a := 11) (by decide), l2 _ _ (fun z => n0 z.1), (l5 _ n0).1]; exact e3
            · try dsimp only
              rw [up2_f (a := 12) (by decide), up2_f (a := 12) (by decide), up2_f (a := 12) (by decide), l2 _ _ (fun z => n0 z.1), (l5 _ n0).2.1]; exact e4
            · intro q hq hq2; dsimp only; rw [(l5 _ n0).2.2]; exact e6 q hq hq2
          rw [if_neg n00]
          dsimp only
          rw [if_pos (show (1 : Int32).toInt ≠ -1 by decide), if_neg (show ¬ (F_x7_stateNumber r o').toInt ≠ 2 by rw [E_x7_stateNumber, o7']; omega), ev o' o1', E_x7_goBack, if_pos y10, show ((1 : Int32)).toNatClampNeg = 1 from rfl, if_pos c0, E_m12_goesBack_j17, if_neg n10, if_pos c0, E_m12_goesBack_j23, if_pos y10, un, nc hP, k1]
          exact ⟨rfl, Or.inr rfl, B⟩
        · subst l1
          rw [if_pos y10]
          dsimp only
          rw [if_neg (show ¬ ((-1 : Int32).toInt ≠ -1) from fun z => z rfl), if_neg n10, E_m12_goesBack_j74, E_m12_goesBack_j17, if_neg n10, if_neg n10]
          refine ⟨rfl, Or.inl rfl, ?_⟩
          exact vd_stay (s := s) hr hV hd (fun f j h11 h12 => (l2 f j (fun z => by omega)).trans (e2 f j (fun z => by omega))) (KP o' d44 d45 (fun f j h11 h12 => (l2 f j (fun z => by omega)).trans (e2 f j (fun z => by omega))) (fun j hj => by
            by_cases z1 : j = 2 * r + 1
            · subst z1; exact Or.inr ⟨p3, l3, l4⟩
            · by_cases z : j = 2 * r
              · subst z; exact Or.inr ⟨p1, by rw [l2 _ _ (fun y => z1 y.1), (l5 _ z1).1]; exact e3, by rw [l2 _ _ (fun y => z1 y.1), (l5 _ z1).2.1]; exact e4⟩
              · exact Or.inl ⟨(l2 11 j (fun y => z1 y.1)).trans (e2 11 j (fun y => z y.1)), (l2 12 j (fun y => z1 y.1)).trans (e2 12 j (fun y => z y.1)), (l5 j z1).1.trans (e5 j z).1, (l5 j z1).2.1.trans (e5 j z).2.1⟩)) (fun j hj hj1 => (l5 j hj1).2.2.trans (e5 j hj).2.2) (fun j q hq hq2 => by
            by_cases z1 : j = 2 * r + 1
            · subst z1; rw [l6 q hq hq2, (e5 _ n1).2.2]
            · try dsimp only
              rw [(l5 j z1).2.2]
              by_cases z : j = 2 * r
              · subst z; exact e6 q hq hq2
              · rw [(e5 j z).2.2])
    · rw [if_neg w2, if_neg w2]
      dsimp only
      rw [if_neg (show ¬ ((-1 : Int32).toInt ≠ -1) from fun z => z rfl)]
      refine ⟨rfl, Or.inl rfl, v1, v2, v3, fun q hq => ⟨fun hx => (v4 q hq).1 (by omega), fun hx => ?_⟩, v5, v6, v7, v8, v9⟩
      by_cases e : q = r
      · subst e; exact ⟨fun g => absurd (show (b35 q).toInt = 1 ∨ (b35 q).toInt = 2 from g) (by omega), fun g => absurd (show (b35 q).toInt = 2 from g) w2⟩
      · exact (v4 q hq).2 (by omega)
end VOIDM
