/-! VOID, on both sides: one RENDERING after the other -/
def STq (b12 b35 b46 b47 b48 b49 b50 : Nat → Int32) (r : Nat) : Prop := (((b35 r).toInt = 1 ∨ (b35 r).toInt = 2) → (b46 (2 * r)).toInt ≠ -1 ∧ SB b12 (b47 (2 * r)) (b48 (2 * r)) (b49 (2 * r)) (b50 (2 * r))) ∧ ((b35 r).toInt = 2 → (b46 (2 * r + 1)).toInt ≠ -1 ∧ SB b12 (b47 (2 * r + 1)) (b48 (2 * r + 1)) (b49 (2 * r + 1)) (b50 (2 * r + 1)))
abbrev V7 := Int32 × Int32 × (Nat → Int32) × (Nat → Int32) × (Nat → Int32) × (Nat → Int32) × (Nat → Nat → Int32)
abbrev V11 := Int32 × Int32 × (Nat → Int32) × (Nat → Int32) × (Nat → Int32) × (Nat → Int32) × (Nat → Int32) × (Nat → Int32) × (Nat → Int32) × (Nat → Int32) × (Nat → Int32)
/-- what is kept while one after the other is gone through: X of them are done -/
def VS2 (X : Nat) (i3 i10 : Int32) (c12 d12 b34 b48 b49 b50 : Nat → Int32) (og0 : Nat → Nat → Int32) (i11 : Int32) (a29 a30 a31 a32 : Nat → Int32) (og : Nat → Nat → Int32) (j18 : Int32) (b35 b43 b44 b45 b46 b47 b51 b52 b53 : Nat → Int32) : Prop :=
  RNS i3 i10 og b34 b35 b43 ∧ KEP i10 og b44 b45 b46 ∧ VOT i10 og b49 b50 ∧ (∀ q : Nat, (q : Int) < i10.toInt → (X ≤ q → STq c12 b35 b46 b47 b48 b49 b50 q) ∧ (q < X → STq d12 b35 b46 b47 b48 b49 b50 q)) ∧ FXD i10 a29 b34 b35 ∧ TEL i10 i11 j18 a30 a31 a32 b51 b52 b53 ∧ TLV i3 i11 a30 ∧ (∀ f j, f < 7 → og f j = og0 f j) ∧ j18.toInt + cntF b35 ≤ 1022
theorem SB_void {c12 d12 : Nat → Int32} {x47 y47 x48 x49 x50 : Int32} {s : Nat} (h : SB c12 x47 x48 x49 x50) (hd : ∀ q, q < 24 → (d12 q).toInt = 0 → (c12 q).toInt = 0 ∧ q ≠ s) (hb : ∀ q, q ≠ s → q < 24 → bitI y47 q = bitI x47 q) : SB d12 y47 x48 x49 x50 := by
  intro q hq hq2
  obtain ⟨g1, g2⟩ := hd q hq hq2
  rw [hb q g2 hq]
  exact h q hq g1
section VOIDL
variable {i1 i3 i10 i11 j18 u0 : Int32} {c12 d12 a29 a30 a31 a32 b34 b35 b43 b44 b45 b46 b47 b48 b49 b50 b51 b52 b53 c44 c45 c47 : Nat → Int32} {og og0 o : Nat → Nat → Int32} {r s : Nat}
theorem minus1 {x : Int32} (h : x.toInt = -1) : x = (-1 : Int32) := eq_of_toInt (by rw [h]; rfl)
/-- it stays as it is; what is kept of its votes is less by one -/
theorem vd_stay (hr : (r : Int) < i10.toInt) (h : VS2 r i3 i10 c12 d12 b34 b48 b49 b50 og0 i11 a29 a30 a31 a32 og j18 b35 b43 b44 b45 b46 b47 b51 b52 b53) (hd : ∀ q, q < 24 → (d12 q).toInt = 0 → (c12 q).toInt = 0 ∧ q ≠ s)
    (ho : ∀ f j, f ≠ 11 → f ≠ 12 → o f j = og f j) (hK : KEP i10 o c44 c45 b46) (h47 : ∀ j, j ≠ 2 * r → j ≠ 2 * r + 1 → c47 j = b47 j) (hb : ∀ j q, q ≠ s → q < 24 → bitI (c47 j) q = bitI (b47 j) q) :
    VS2 (r + 1) i3 i10 c12 d12 b34 b48 b49 b50 og0 i11 a29 a30 a31 a32 o j18 b35 b43 c44 c45 b46 c47 b51 b52 b53 := by
  obtain ⟨v1, v2, v3, v4, v5, v6, v7, v8, v9⟩ := h
  refine ⟨⟨fun q hq => ?_, v1.2⟩, hK, ⟨fun j hj => ?_, v3.2⟩, fun q hq => ⟨fun hx => ?_, fun hx => ?_⟩, v5, v6, v7, fun f j hf => ?_, v9⟩
  · rw [ho 7 q (by decide) (by decide), ho 8 q (by decide) (by decide)]; exact v1.1 q hq
  · rw [ho 9 j (by decide) (by decide), ho 10 j (by decide) (by decide)]; exact v3.1 j hj
  · have z := (v4 q hq).1 (by omega)
    unfold STq at z ⊢
    rw [h47 (2 * q) (by omega) (by omega), h47 (2 * q + 1) (by omega) (by omega)]
    exact z
  · by_cases e : q = r
    · subst e
      have z := (v4 q hq).1 (Nat.le_refl q)
      exact ⟨fun g => ⟨(z.1 g).1, SB_void (z.1 g).2 hd (hb _)⟩, fun g => ⟨(z.2 g).1, SB_void (z.2 g).2 hd (hb _)⟩⟩
    · have z := (v4 q hq).2 (by omega)
      unfold STq at z ⊢
      rw [h47 (2 * q) (by omega) (by omega), h47 (2 * q + 1) (by omega) (by omega)]
      exact z
  · rw [ho f j (by omega) (by omega)]; exact v8 f j hf
/-- it goes back -/
theorem vd_back {x : Int32} {z29 z30 z31 z32 z43 z46 z51 z52 z53 : Nat → Int32} {z11 w18 : Int32} {og' : Nat → Nat → Int32} (hr : (r : Int) < i10.toInt) (h200 : i10.toInt ≤ 200) (h : VS2 r i3 i10 c12 d12 b34 b48 b49 b50 og0 i11 a29 a30 a31 a32 og j18 b35 b43 b44 b45 b46 b47 b51 b52 b53) (hd : ∀ q, q < 24 → (d12 q).toInt = 0 → (c12 q).toInt = 0 ∧ q ≠ s)
    (hx : (x.toInt = 0 ∧ ((b35 r).toInt = 1 ∨ (b35 r).toInt = 2)) ∨ (x.toInt = 1 ∧ (b35 r).toInt = 2))
    (h7 : og' 7 r = x) (h8 : og' 8 r = (-1 : Int32)) (ho : ∀ f j, f ≠ 11 → f ≠ 12 → ¬ (j = r ∧ (f = 7 ∨ f = 8)) → og' f j = og f j)
    (hk : ∀ j, j ≠ 2 * r → j ≠ 2 * r + 1 → og' 11 j = og 11 j ∧ og' 12 j = og 12 j ∧ c44 j = b44 j ∧ c45 j = b45 j ∧ c47 j = b47 j ∧ z46 j = b46 j) (hk1 : (z46 (2 * r + 1)).toInt = -1 ∧ (og' 11 (2 * r + 1)).toInt = -1) (hk0 : (x.toInt = 0 ∧ (z46 (2 * r)).toInt = -1 ∧ (og' 11 (2 * r)).toInt = -1) ∨ (x.toInt = 1 ∧ z46 (2 * r) = b46 (2 * r) ∧ og' 11 (2 * r) = c44 (2 * r) ∧ og' 12 (2 * r) = c45 (2 * r) ∧ ∀ q, q ≠ s → q < 24 → bitI (c47 (2 * r)) q = bitI (b47 (2 * r)) q))
    (h43 : ∀ j, j ≠ r → z43 j = b43 j) (h43r : (z43 r).toInt = -1)
    (hfx : ((b35 r).toInt = 1 ∧ z29 = a29 ∧ z11 = i11 ∧ z30 = a30 ∧ z31 = a31 ∧ z32 = a32 ∧ w18 = j18 ∧ z51 = b51 ∧ z52 = b52 ∧ z53 = b53) ∨ ((b35 r).toInt = 2 ∧ (z29 = upd a29 (b34 r).toNatClampNeg (-1 : Int32)) ∧ w18 = j18 + 1 ∧ TEL i10 z11 w18 z30 z31 z32 z51 z52 z53 ∧ TLV i3 z11 z30)) :
    VS2 (r + 1) i3 i10 c12 d12 b34 b48 b49 b50 og0 z11 z29 z30 z31 z32 og' w18 (upd b35 r x) z43 c44 c45 z46 c47 z51 z52 z53 := by
  obtain ⟨v1, v2, v3, v4, v5, v6, v7, v8, v9⟩ := h
  obtain ⟨s7, s8, s1, s2, s3⟩ := v1.1 r hr
  refine ⟨⟨fun q hq => ?_, fun q hq hq2 => ?_⟩, fun j hj => ?_, ⟨fun j hj => ?_, v3.2⟩, fun q hq => ⟨fun hx1 => ?_, fun hx1 => ?_⟩, ?_, ?_, ?_, fun f j hf => ?_, ?_⟩
  · by_cases e : q = r
    · subst e
      rw [upd_s, h7, h8, minus1 h43r]
      exact ⟨rfl, rfl, by omega, s2, fun _ => by decide⟩
    · rw [upd_n e, ho 7 q (by decide) (by decide) (fun z => e z.1), ho 8 q (by decide) (by decide) (fun z => e z.1), h43 q e]
      exact v1.1 q hq
  · rw [upd_n (by omega)]; exact v1.2 q hq hq2
  · by_cases e1 : j = 2 * r + 1
    · subst e1; exact Or.inl hk1
    · by_cases e0 : j = 2 * r
      · subst e0
        rcases hk0 with ⟨-, g1, g2⟩ | ⟨g0, g1, g2, g3, -⟩
        · exact Or.inl ⟨g1, g2⟩
        · have st := ((v4 r hr).1 (Nat.le_refl r)).1 (by omega)
          rw [g1, g2, g3, ho 13 _ (by decide) (by decide) (fun z => by omega)]
          rcases v2 (2 * r) hj with ⟨f1, -⟩ | ⟨f1, -, -, f4⟩
          · exact absurd f1 st.1
          · exact Or.inr ⟨f1, rfl, rfl, f4⟩
      · obtain ⟨g1, g2, g3, g4, -, g6⟩ := hk j e0 e1
        rw [g1, g2, g3, g4, g6, ho 13 j (by decide) (by decide) (fun z => by omega)]
        exact v2 j hj
  · rw [ho 9 j (by decide) (by decide) (fun z => by omega), ho 10 j (by decide) (by decide) (fun z => by omega)]; exact v3.1 j hj
  · have e : q ≠ r := by omega
    have z := (v4 q hq).1 (by omega)
    unfold STq at z ⊢
    rw [upd_n e, (hk (2 * q) (by omega) (by omega)).2.2.2.2.1, (hk (2 * q + 1) (by omega) (by omega)).2.2.2.2.1, (hk (2 * q) (by omega) (by omega)).2.2.2.2.2, (hk (2 * q + 1) (by omega) (by omega)).2.2.2.2.2]
    exact z
  · by_cases e : q = r
    · subst e
      unfold STq
      rw [upd_s]
      refine ⟨fun g => ?_, fun g => by omega⟩
      rcases hk0 with ⟨g0, -⟩ | ⟨g0, g1, -, -, g2⟩
      · omega
      · have st := ((v4 q hq).1 (Nat.le_refl q)).1 (by omega)
        rw [g1]
        exact ⟨st.1, SB_void st.2 hd g2⟩
    · have z := (v4 q hq).2 (by omega)
      unfold STq at z ⊢
      rw [upd_n e, (hk (2 * q) (by omega) (by omega)).2.2.2.2.1, (hk (2 * q + 1) (by omega) (by omega)).2.2.2.2.1, (hk (2 * q) (by omega) (by omega)).2.2.2.2.2, (hk (2 * q + 1) (by omega) (by omega)).2.2.2.2.2]
      exact z
  · rcases hfx with ⟨g1, g2, -⟩ | ⟨g1, g2, -⟩
    · rw [g2]; exact FXD_st v5 (by omega) (by omega)
    · obtain ⟨W, hW⟩ : ∃ W : Nat, (b34 r).toInt = (W : Int) := ⟨(b34 r).toInt.toNat, by omega⟩
      rw [g2, nc hW]
      intro w hw
      by_cases e : w = W
      · subst e
        rw [upd_s]
        refine Or.inl ⟨sm1, fun p hp hp2 => ?_⟩
        by_cases e2 : p = r
        · subst e2; rw [upd_s]; omega
        · rw [upd_n e2]
          intro hp3
          rcases v5 w hw with ⟨-, f2⟩ | ⟨p0, f1, f2, f3, f4, f5⟩
          · exact f2 p hp hp2 hp3
          · have y1 := f5 p hp hp2 hp3
            have y2 := f5 r hr hW g1
            omega
      · rw [upd_n e]
        have oth : ∀ p : Nat, (b34 p).toInt = (w : Int) → p ≠ r := fun p hp e2 => by subst e2; omega
        rcases v5 w hw with ⟨f1, f2⟩ | ⟨p0, f1, f2, f3, f4, f5⟩
        · exact Or.inl ⟨f1, fun p hp hp2 => by rw [upd_n (oth p hp2)]; exact f2 p hp hp2⟩
        · refine Or.inr ⟨p0, f1, f2, f3, by rw [upd_n (oth p0 f3)]; exact f4, fun p hp hp2 hp3 => ?_⟩
          rw [upd_n (oth p hp2)] at hp3; exact f5 p hp hp2 hp3
  · rcases hfx with ⟨-, -, g3, g4, g5, g6, g7, g8, g9, g10⟩ | ⟨-, -, -, g4, -⟩
    · rw [g3, g4, g5, g6, g7, g8, g9, g10]; exact v6
    · exact g4
  · rcases hfx with ⟨-, -, g3, g4, -⟩ | ⟨-, -, -, -, g5⟩
    · rw [g3, g4]; exact v7
    · exact g5
  · rw [ho f j (by omega) (by omega) (fun z => by omega)]; exact v8 f j hf
  · have er : (Int32.ofNat r).toInt = (r : Int) := nI_toInt (by omega)
    have cp := cnt_put (a := b35) (z := Int32.ofNat r) (v := x) (i := (r : Int)) rfl er (by omega) (by omega)
    rw [nc er, show ((r : Int)).toNat = r by omega] at cp
    rw [cp]
    have ix : isF x = 0 := isF_n (by omega)
    rw [ix]
    rcases hfx with ⟨g1, -, -, -, -, -, g7, -⟩ | ⟨g1, -, g3, -, -⟩
    · rw [g7, isF_n (show ¬ (b35 r).toInt = 2 by omega)]; omega
    · rw [g3, isF_2 g1]
      have := v6.2.1
      have e18 : i11 = j18 := v6.1
      have := toInt_add (x := j18) rfl c1 (by rw [← e18]; omega) (by rw [← e18]; omega)
      omega
end VOIDL
