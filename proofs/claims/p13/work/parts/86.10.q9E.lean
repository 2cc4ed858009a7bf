/-! the reference's clauses -/
abbrev M5 := Int32 × Int32 × (Nat → Int32) × (Nat → Int32) × (Nat → Int32)
theorem c2' : (2 : Int32).toInt = 2 := by decide
theorem c6' : (6 : Int32).toInt = 6 := by decide
def Y5 (r : Int × Nat) (i11 : Int32) (c : Nat) (f0 f1 f2 : Nat → Int32) (D : (Nat → Int32) → (Nat → Int32) → (Nat → Int32) → Prop) (t : M5) : Prop :=
  ((r.1 < 0 ∧ t.2.1.toInt = r.1) ∨ (r.1 = 0 ∧ t.1.toInt = (r.2 : Int) ∧ t.2.1 = i11 ∧ D t.2.2.1 t.2.2.2.1 t.2.2.2.2)) ∧ Sm c f0 t.2.2.1 ∧ Sm c f1 t.2.2.2.1 ∧ Sm c f2 t.2.2.2.2
section MCL
variable {T : Nat → Int} {n p c : Nat} {p0 i9 i10 i11 : Int32} {a1 a20 a21 a22 : Nat → Int32}
theorem m_rank (hT : TXT T n) (hx : TXM T n i10 a1) (hg : i11.toInt = 0) (h0 : p0.toInt = (c : Int)) (hy : i9.toInt = (p : Int)) (hp : p ≤ n) :
    Y5 (spR T p) i11 c a20 a21 a22 (fun b0 b1 b2 => (b0 c).toInt = T p - 48 ∧ (b1 c).toInt = T (p + 1) - 48 ∧ (b2 c).toInt = T (p + 2) - 48) (F_m12_readsRank p0 i9 i10 i11 a1 a20 a21 a22) := by
  have h160 := hT.1
  have hy1 := suc_of hy (by omega)
  have hy2 : (i9 + 1 + 1).toInt = ((p + 2 : Nat) : Int) := suc_of hy1 (by omega)
  have hy3 : (i9 + 1 + 1 + 1).toInt = ((p + 3 : Nat) : Int) := suc_of hy2 (by omega)
  have q0 := hr_of hT hx hy
  have q1 := hr_of hT hx hy1
  have q2 := hr_of hT hx hy2
  have b0 := hT.2.1 p
  have b1 := hT.2.1 (p + 1)
  have b2 := hT.2.1 (p + 2)
  have z0 := toInt_sub q0 c48 (by omega) (by omega)
  have z1 := toInt_sub q1 c48 (by omega) (by omega)
  have z2 := toInt_sub q2 c48 (by omega) (by omega)
  have e1 := c1
  have e2 := c2'
  have e6 := c6'
  have e0 := c0
  have f10 := fl0 (f := 1) (a := i9) hg (by omega) (by omega)
  have f11 := fl0 (f := 1) (a := i9 + 1) hg (by omega) (by omega)
  have f12 := fl0 (f := 1) (a := i9 + 1 + 1) hg (by omega) (by omega)
  have f61 := fl0 (f := 6) (a := i9 + 1) hg (by omega) (by omega)
  have f62 := fl0 (f := 6) (a := i9 + 1 + 1) hg (by omega) (by omega)
  have l0 := lie (u := F_m12_here i9 i10 a1 - 48) (a := 0) (b := 2)
  have l1 := lie (u := F_m12_here (i9 + 1) i10 a1 - 48) (a := 0) (b := 2)
  have l2 := lie (u := F_m12_here (i9 + 1 + 1) i10 a1 - 48) (a := 0) (b := 2)
  rw [E_m12_readsRank, nc h0]
  generalize F_m12_here i9 i10 a1 - 48 = w0 at z0 l0 ⊢
  generalize F_m12_here (i9 + 1) i10 a1 - 48 = w1 at z1 l1 ⊢
  generalize F_m12_here (i9 + 1 + 1) i10 a1 - 48 = w2 at z2 l2 ⊢
  unfold spR
  by_cases h1 : 48 ≤ T p ∧ T p ≤ 50
  · have l0 : F_m12_lies w0 0 2 = 1 := by
      rcases l0 with l | l
      · exact l.2.2
      · omega
    rw [if_neg (fun z => z h1), l0, if_pos y10]
    by_cases h2 : 48 ≤ T (p + 1) ∧ T (p + 1) ≤ 50
    · have l1 : F_m12_lies w1 0 2 = 1 := by
        rcases l1 with l | l
        · exact l.2.2
        · omega
      rw [if_neg (fun z => z h2), l1, if_pos y10, if_pos y10, if_pos y10]
      by_cases h3 : 48 ≤ T (p + 2) ∧ T (p + 2) ≤ 50
      · have l2 : F_m12_lies w2 0 2 = 1 := by
          rcases l2 with l | l
          · exact l.2.2
          · omega
        rw [if_neg (c := ¬ (48 ≤ T (p + 2) ∧ T (p + 2) ≤ 50)) (fun z => z h3), l2]
        simp only [y10, if_true, ne_eq, not_false_eq_true]
        repeat' (split <;> try (exfalso; omega))
        all_goals first
          | exact ⟨Or.inl ⟨by dsimp only; omega, by dsimp only; omega⟩, Sm_u, Sm_r, Sm_r⟩
          | exact ⟨Or.inl ⟨by dsimp only; omega, by dsimp only; omega⟩, Sm_u, Sm_u, Sm_r⟩
          | exact ⟨Or.inr ⟨rfl, hy3, rfl, by show (upd a20 c _ c).toInt = _; rw [upd_s]; omega, by show (upd a21 c _ c).toInt = _; rw [upd_s]; omega, by show (upd a22 c _ c).toInt = _; rw [upd_s]; omega⟩, Sm_u, Sm_u, Sm_u⟩
      · have l2 : F_m12_lies w2 0 2 = 0 := by
          rcases l2 with l | l
          · omega
          · exact l.2
        rw [if_pos (c := ¬ (48 ≤ T (p + 2) ∧ T (p + 2) ≤ 50)) h3, l2]
        simp only [y00, if_false, ne_eq, not_true_eq_false]
        repeat' (split <;> try (exfalso; omega))
        all_goals first
          | exact ⟨Or.inl ⟨by dsimp only; omega, by dsimp only; omega⟩, Sm_u, Sm_r, Sm_r⟩
          | exact ⟨Or.inl ⟨by dsimp only; omega, by dsimp only; omega⟩, Sm_u, Sm_u, Sm_r⟩
    · have l1 : F_m12_lies w1 0 2 = 0 := by
        rcases l1 with l | l
        · omega
        · exact l.2
      rw [if_pos (c := ¬ (48 ≤ T (p + 1) ∧ T (p + 1) ≤ 50)) h2, l1]
      simp only [y00, if_false, ne_eq, not_true_eq_false]
      repeat' (split <;> try (exfalso; omega))
      all_goals exact ⟨Or.inl ⟨by dsimp only; omega, by dsimp only; omega⟩, Sm_u, Sm_r, Sm_r⟩
  · have l0 : F_m12_lies w0 0 2 = 0 := by
      rcases l0 with l | l
      · omega
      · exact l.2
    rw [if_pos h1, l0, if_neg n00]
    exact ⟨Or.inl ⟨by show -1000 - (p : Int) < 0; omega, by show (F_m12_fails 1 i9 i11).toInt = -1000 - (p : Int); omega⟩, Sm_r, Sm_r, Sm_r⟩
theorem must1 {w : Int32} (h : (F_m12_here i9 i10 a1).toInt = w.toInt) : F_m12_must w i9 i10 i11 a1 = (i9 + 1, i11) := by
  rw [E_m12_must, if_pos h]
theorem must0 {w : Int32} (h : ¬ (F_m12_here i9 i10 a1).toInt = w.toInt) : F_m12_must w i9 i10 i11 a1 = (i9 + 1, F_m12_fails 1 i9 i11) := by
  rw [E_m12_must, if_neg h]
/-- behind a FORM: = and a number -/
theorem m_mustB (hT : TXT T n) (hx : TXM T n i10 a1) (hg : i11.toInt = 0) (h0 : p0.toInt = (c : Int)) (hy : i9.toInt = (p : Int)) (hp : p < n) {k : Int32} :
    Y5 (if T (p + 1) ≠ 61 then (-1000 - ((p + 1 : Nat) : Int), p + 1) else spO T 79 (p + 2)) i11 c a20 a21 a22 (fun b0 b1 b2 => b0 = a20 ∧ (b1 c).toInt = k.toInt ∧ (b2 c).toInt = (spN T 79 (p + 2)).2.2) (f_m12_readsMust_j55 p0 i10 a1 a21 a22 a20 i9 i11 k p0) := by
  have h160 := hT.1
  have hy1 := suc_of hy (by omega)
  have q1 := hr_of hT hx hy1
  have c61 : (61 : Int32).toInt = 61 := by decide
  have c79 : (79 : Int32).toInt = 79 := by decide
  have e1 := c1
  rw [E_m12_readsMust_j55, nc h0, good1 hg, if_neg n10]
  by_cases w : T (p + 1) = 61
  · have hpn := T_in hT (p := p + 1) (by omega)
    have hy2 : (i9 + 1 + 1).toInt = ((p + 2 : Nat) : Int) := suc_of hy1 (by omega)
    rw [must1 (by omega), if_neg (fun z => z w)]
    dsimp only
    rw [good1 hg, if_neg n10]
    have N := mnum (p0 := 79) hT hx hy2 (by omega) (by rw [c79]; decide) hg
    rw [c79] at N
    refine ⟨?_, Sm_r, Sm_u, Sm_u⟩
    rcases N with ⟨m1, m2, m3, m4⟩ | ⟨m1, m2⟩
    · refine Or.inr ⟨m1, m3, eq_of_toInt (by show (F_m12_readsNumber 79 (i9 + 1 + 1) i10 i11 a1).2.2.toInt = _; omega), rfl, ?_, ?_⟩
      · show (upd a21 c k c).toInt = _; rw [upd_s]
      · show (upd a22 c _ c).toInt = _; rw [upd_s]; exact m2
    · exact Or.inl ⟨m1, m2⟩
  · have f1 := fl0 (f := 1) (a := i9 + 1) hg (by omega) (by omega)
    rw [must0 (by omega), if_pos w]
    dsimp only
    rw [good0 (by omega), if_pos y00]
    exact ⟨Or.inl ⟨by show -1000 - ((p + 1 : Nat) : Int) < 0; omega, by show (F_m12_fails 1 (i9 + 1) i11).toInt = -1000 - ((p + 1 : Nat) : Int); omega⟩, Sm_r, Sm_u, Sm_r⟩
theorem j55_bad {k : Int32} (h0 : p0.toInt = (c : Int)) (h : i11.toInt ≠ 0) : f_m12_readsMust_j55 p0 i10 a1 a21 a22 a20 i9 i11 k p0 = (i9 + 1, i11, a20, upd a21 c k, a22) := by
  rw [E_m12_readsMust_j55, nc h0, good0 h, if_pos y00]
theorem m_must (hT : TXT T n) (hx : TXM T n i10 a1) (hg : i11.toInt = 0) (h0 : p0.toInt = (c : Int)) (hy : i9.toInt = (p : Int)) (hp : p ≤ n) :
    Y5 (spW T p) i11 c a20 a21 a22 (fun b0 b1 b2 => (b0 c).toInt = (spN T 39 p).2.2 ∧ (b1 c).toInt = (if T ((spN T 39 p).2.1 + 1) = 42 then -1 else T ((spN T 39 p).2.1 + 1) - 48) ∧ (b2 c).toInt = (spN T 79 ((spN T 39 p).2.1 + 3)).2.2) (F_m12_readsMust p0 i9 i10 i11 a1 a20 a21 a22) := by
  have h160 := hT.1
  have c46 : (46 : Int32).toInt = 46 := by decide
  have c51 : (51 : Int32).toInt = 51 := by decide
  have c39 : (39 : Int32).toInt = 39 := by decide
  have c48' := c48
  have e1 := c1
  have N := mnum (p0 := 39) hT hx hy hp (by rw [c39]; decide) hg
  rw [c39] at N
  rw [E_m12_readsMust, nc h0]
  generalize F_m12_readsNumber 39 i9 i10 i11 a1 = t at N
  obtain ⟨t1, t2, t3⟩ := t
  unfold spW
  dsimp only
  rcases N with ⟨m1, m2, m3, m4⟩ | ⟨m1, m2⟩
  · have s := spN_at hT hp m1
    have m2' : t1.toInt = (spN T 39 p).2.2 := m2
    have m3' : t2.toInt = ((spN T 39 p).2.1 : Int) := m3
    have m4' : t3 = i11 := eq_of_toInt (by show (_ : Int32).toInt = _; rw [hg]; exact m4)
    clear m2 m3 m4
    subst m4'
    rw [seq_y (show (spO T 39 p).1 = 0 from m1), good1 hg, if_neg n10]
    show Y5 (spW2 T (spN T 39 p).2.1) _ _ _ _ _ _ _
    have sq := s.2.1
    obtain ⟨sv, hsv⟩ : ∃ w, (spN T 39 p).2.2 = w := ⟨_, rfl⟩
    obtain ⟨q, hqq⟩ : ∃ w, (spN T 39 p).2.1 = w := ⟨_, rfl⟩
    rw [hsv] at m2' ⊢
    rw [hqq] at m3' sq ⊢
    unfold spW2
    have q0 := hr_of hT hx m3'
    by_cases w : T q = 46
    · have hqn := T_in hT (p := q) (by omega)
      have hy1 := suc_of m3' (by omega)
      have q1 := hr_of hT hx hy1
      rw [must1 (by omega), if_neg (fun z => z w), E_m12_readsMust_j23]
      dsimp only
      rw [good1 hg, if_pos y10]
      by_cases w2 : T (q + 1) = 42 ∨ (48 ≤ T (q + 1) ∧ T (q + 1) ≤ 51)
      · have hqn1 := T_in hT (p := q + 1) (by omega)
        rw [if_neg (fun z => z w2)]
        have fin : ∀ k : Int32, k.toInt = (if T (q + 1) = 42 then -1 else T (q + 1) - 48) → Y5 (if T (q + 2) ≠ 61 then (-1000 - ((q + 2 : Nat) : Int), q + 2) else spO T 79 (q + 3)) t3 c a20 a21 a22 (fun b0 b1 b2 => (b0 c).toInt = sv ∧ (b1 c).toInt = (if T (q + 1) = 42 then -1 else T (q + 1) - 48) ∧ (b2 c).toInt = (spN T 79 (q + 3)).2.2) (f_m12_readsMust_j55 p0 i10 a1 a21 a22 (upd a20 c t1) (t2 + 1) t3 k p0) := by
          intro k hk
          obtain ⟨B, s0, s1, s2⟩ := m_mustB (p0 := p0) (a20 := upd a20 c t1) (a21 := a21) (a22 := a22) (k := k) hT hx hg h0 hy1 hqn1
          refine ⟨?_, Sm_t Sm_u s0, s1, s2⟩
          rcases B with B | ⟨B1, B2, B3, B4, B5, B6⟩
          · exact Or.inl B
          · exact Or.inr ⟨B1, B2, B3, by rw [B4, upd_s]; exact m2', by rw [B5]; exact hk, B6⟩
        have e44 : ∀ z : Int32, f_m12_readsMust_j44 p0 i10 a1 a21 a22 (upd a20 c t1) (t2 + 1) z = if (F_m12_here (t2 + 1) i10 a1).toInt ≠ 42 then f_m12_readsMust_j55 p0 i10 a1 a21 a22 (upd a20 c t1) (t2 + 1) z (F_m12_here (t2 + 1) i10 a1 - 48) p0 else f_m12_readsMust_j55 p0 i10 a1 a21 a22 (upd a20 c t1) (t2 + 1) z (-1) p0 := fun _ => E_m12_readsMust_j44
        by_cases w4 : T (q + 1) = 42
        · rw [if_pos (show (F_m12_here (t2 + 1) i10 a1).toInt = 42 by omega), e44, if_neg (show ¬ (F_m12_here (t2 + 1) i10 a1).toInt ≠ 42 by omega)]
          exact fin (-1) (by rw [if_pos w4]; decide)
        · rw [if_neg (show ¬ (F_m12_here (t2 + 1) i10 a1).toInt = 42 by omega)]
          rcases lie (u := F_m12_here (t2 + 1) i10 a1) (a := 48) (b := 51) with ⟨l1, l2, l⟩ | ⟨l1, l⟩
          · rw [l, if_pos y10, e44, if_pos (show (F_m12_here (t2 + 1) i10 a1).toInt ≠ 42 by omega)]
            refine fin _ ?_
            rw [if_neg w4]
            have := toInt_sub q1 c48 (by omega) (by omega)
            omega
          · omega
      · have f1 := fl0 (f := 1) (a := t2 + 1) hg (by omega) (by omega)
        rw [if_pos w2, if_neg (show ¬ (F_m12_here (t2 + 1) i10 a1).toInt = 42 by omega)]
        rcases lie (u := F_m12_here (t2 + 1) i10 a1) (a := 48) (b := 51) with ⟨l1, l2, l⟩ | ⟨l1, l⟩
        · omega
        · rw [l, if_neg n00, E_m12_readsMust_j44, if_pos (show (F_m12_here (t2 + 1) i10 a1).toInt ≠ 42 by omega), j55_bad h0 (by omega)]
          exact ⟨Or.inl ⟨by show -1000 - ((q + 1 : Nat) : Int) < 0; omega, by show (F_m12_fails 1 (t2 + 1) t3).toInt = -1000 - ((q + 1 : Nat) : Int); omega⟩, Sm_u, Sm_u, Sm_r⟩
    · have f1 := fl0 (f := 1) (a := t2) hg (by omega) (by omega)
      rw [must0 (by omega), if_pos w, E_m12_readsMust_j23]
      dsimp only
      rw [good0 (by omega), if_neg n00]
      exact ⟨Or.inl ⟨by show -1000 - (q : Int) < 0; omega, by show (F_m12_fails 1 t2 t3).toInt = -1000 - (q : Int); omega⟩, Sm_u, Sm_r, Sm_r⟩
  · have m2' : t3.toInt = (spN T 39 p).1 := m2
    rw [seq_n (show (spO T 39 p).1 < 0 from m1), good0 (by omega), if_pos y00, E_m12_readsMust_j23, good0 (by omega), if_neg n00]
    exact ⟨Or.inl ⟨m1, m2⟩, Sm_u, Sm_r, Sm_r⟩
end MCL
abbrev M17 := Int32 × Int32 × Int32 × Int32 × Int32 × Int32 × Int32 × Int32 × (Nat → Int32) × (Nat → Int32) × (Nat → Int32) × (Nat → Int32) × (Nat → Int32) × (Nat → Int32) × (Nat → Int32) × (Nat → Int32) × (Nat → Int32)
def cZ (t : M17) : C3 := (t.2.2.2.1, t.2.2.2.2.2.2.2.2.2.2.2.2.2.2.1, t.2.2.2.2.2.2.2.2.2.2.2.2.2.2.2.1)
/-- what the reference keeps of a clause -/
def MD (T : Nat → Int) (p c : Nat) (b0 b1 b2 : Nat → Int32) : Prop :=
  (T p = 119 → (b0 c).toInt = dS T p ∧ (b1 c).toInt = (if dG T p = 42 then -1 else dG T p - 48) ∧ (b2 c).toInt = dV T p) ∧ (T p = 107 → (b0 c).toInt = T (p + 1) - 48 ∧ (b1 c).toInt = T (p + 2) - 48 ∧ (b2 c).toInt = T (p + 3) - 48) ∧ (T p = 118 → (b0 c).toInt = dS T p ∧ (b1 c).toInt = dV T p) ∧ (T p = 111 → (b0 c).toInt = dV T p)
def cmK (T : Nat → Int) (p : Nat) : List IN := if (T p = 119 ∨ T p = 115) ∧ T (hdq T p) = 40 then cmC T (hdq T p) else []
/-- the code of a clause: where it begins and ends -/
def ME (i6 : Int32) (g25 g26 : Nat → Int32) (E F : List IN) (q c : Nat) (b3 b4 : Nat → Int32) (k : C3) : Prop :=
  CD i6 g25 g26 (E ++ F) k ∧ (E ++ F).length ≤ q ∧ (b3 c).toInt = (E.length : Int) ∧ (b4 c).toInt = ((E ++ F).length : Int)
def YC (T : Nat → Int) (j p c : Nat) (i6 : Int32) (g25 g26 : Nat → Int32) (E : List IN) (f9 f0 f1 f2 f3 f4 : Nat → Int32) (t : M17) : Prop :=
  (((spCl T j p).1 < 0 ∧ t.2.1.toInt = (spCl T j p).1 ∧ FRM i6 g25 g26 (cZ t)) ∨ ((spCl T j p).1 = 0 ∧ t.1.toInt = ((spCl T j p).2 : Int) ∧ t.2.1.toInt = 0 ∧ t.2.2.1.toInt = ((j + 1 : Nat) : Int) ∧ (t.2.2.2.2.2.2.2.2.1 c).toInt = T p ∧ MD T p c t.2.2.2.2.2.2.2.2.2.1 t.2.2.2.2.2.2.2.2.2.2.1 t.2.2.2.2.2.2.2.2.2.2.2.1 ∧ ME i6 g25 g26 E (cmK T p) (spCl T j p).2 c t.2.2.2.2.2.2.2.2.2.2.2.2.1 t.2.2.2.2.2.2.2.2.2.2.2.2.2.1 (cZ t))) ∧
  Sm c f9 t.2.2.2.2.2.2.2.2.1 ∧ Sm c f0 t.2.2.2.2.2.2.2.2.2.1 ∧ Sm c f1 t.2.2.2.2.2.2.2.2.2.2.1 ∧ Sm c f2 t.2.2.2.2.2.2.2.2.2.2.2.1 ∧ Sm c f3 t.2.2.2.2.2.2.2.2.2.2.2.2.1 ∧ Sm c f4 t.2.2.2.2.2.2.2.2.2.2.2.2.2.1
section MCL2
variable {T : Nat → Int} {n p q c j : Nat} {i6 i9 i10 i11 i12 i13 i14 i15 i16 i17 v z l9 l11 : Int32} {a1 a19 a20 a21 a22 a23 a24 a25 a26 a27 b9 b0 b1 b2 b3 g25 g26 : Nat → Int32} {E : List IN}
theorem j30_bad (h : l11.toInt ≠ 0) (hz : z.toNatClampNeg = c) : f_m12_clause_j30 i6 i10 i12 i13 i14 i15 i16 i17 a1 a24 a25 a26 a27 v z b9 b3 l9 l11 b0 b1 b2 = (l9, l11, i12 + 1, i13, i14, i15, i16, i17, b9, b0, b1, b2, b3, upd a24 c i13, a25, a26, a27) := by
  rw [E_m12_clause_j30, good0 h, if_pos y00, hz]
/-- behind what a clause says: no condition -/
theorem j30_no (h : l11.toInt = 0) (hv : v.toInt ≠ 119) (hv2 : v.toInt ≠ 115) (hz : z.toNatClampNeg = c) : f_m12_clause_j30 i6 i10 i12 i13 i14 i15 i16 i17 a1 a24 a25 a26 a27 v z b9 b3 l9 l11 b0 b1 b2 = (l9, l11, i12 + 1, i13, i14, i15, i16, i17, b9, b0, b1, b2, b3, upd a24 c i13, a25, a26, a27) := by
  rw [E_m12_clause_j30, good1 h, if_neg n10, hz]
  split
  · rfl
  · first
    | rfl
    | rw [if_neg hv, if_pos hv2]
theorem j30_tail (hT : TXT T n) (hx : TXM T n i10 a1) (h : l11.toInt = 0) (hv : v.toInt = 119 ∨ v.toInt = 115) (hy : l9.toInt = (q : Int)) (hq : q ≤ n) (hj : i12.toInt = (j : Int)) (hj2 : j < 16) (hz : z.toNatClampNeg = c) (hC : CD i6 g25 g26 E (i13, a25, a26)) (hE : E.length ≤ q) {t : M17} (et : t = f_m12_clause_j30 i6 i10 i12 i13 i14 i15 i16 i17 a1 a24 a25 a26 a27 v z b9 b3 l9 l11 b0 b1 b2) :
    (((spT T q).1 < 0 ∧ t.2.1.toInt = (spT T q).1 ∧ FRM i6 g25 g26 (cZ t)) ∨ ((spT T q).1 = 0 ∧ t.1.toInt = ((spT T q).2 : Int) ∧ t.2.1.toInt = 0 ∧ t.2.2.1.toInt = ((j + 1 : Nat) : Int) ∧ CD i6 g25 g26 (E ++ (if T q = 40 then cmC T q else [])) (cZ t) ∧ (E ++ (if T q = 40 then cmC T q else [])).length ≤ (spT T q).2 ∧ (t.2.2.2.2.2.2.2.2.2.2.2.2.2.1 c).toInt = ((E ++ (if T q = 40 then cmC T q else [])).length : Int))) ∧ t.2.2.2.2.2.2.2.2.1 = b9 ∧ t.2.2.2.2.2.2.2.2.2.1 = b0 ∧ t.2.2.2.2.2.2.2.2.2.2.1 = b1 ∧ t.2.2.2.2.2.2.2.2.2.2.2.1 = b2 ∧ t.2.2.2.2.2.2.2.2.2.2.2.2.1 = b3 ∧ Sm c a24 t.2.2.2.2.2.2.2.2.2.2.2.2.2.1 := by
  have hr := hr_of hT hx hy
  have hj1 := suc_of hj (by omega)
  subst et
  rw [E_m12_clause_j30, good1 h, if_neg n10]
  unfold spT
  by_cases w : T q = 40
  · have C := m_condition (i17 := i17) (a := a27) hT hx h hy w hC hE
    have e : (if v.toInt = 119 then f_m12_clause_j75 i6 i10 i12 i13 i17 a1 a24 a25 a26 a27 z b9 b3 l9 l11 b0 b1 b2 else (if v.toInt ≠ 115 then (l9, l11, (i12 + (1 : Int32)), i13, i14, i15, i16, i17, b9, b0, b1, b2, b3, (upd a24 z.toNatClampNeg i13), a25, a26, a27) else f_m12_clause_j75 i6 i10 i12 i13 i17 a1 a24 a25 a26 a27 z b9 b3 l9 l11 b0 b1 b2)) = f_m12_clause_j75 i6 i10 i12 i13 i17 a1 a24 a25 a26 a27 z b9 b3 l9 l11 b0 b1 b2 := by
      by_cases w1 : v.toInt = 119
      · rw [if_pos w1]
      · rw [if_neg w1, if_neg (by omega)]
    rw [if_pos w, if_pos w, if_neg (show ¬ (F_m12_here l9 i10 a1).toInt ≠ 40 by omega), e, E_m12_clause_j75, hz]
    refine ⟨?_, rfl, rfl, rfl, rfl, rfl, Sm_u⟩
    rcases C with C | ⟨C1, C2, C3, C4, C5⟩
    · exact Or.inl C
    · exact Or.inr ⟨C1, C2, C3, hj1, C4, C5, by show (upd a24 c _ c).toInt = _; rw [upd_s]; exact C4.1⟩
  · rw [if_neg w, if_neg w, if_pos (show (F_m12_here l9 i10 a1).toInt ≠ 40 by omega), hz, List.append_nil]
    exact ⟨Or.inr ⟨rfl, hy, h, hj1, hC, hE, by show (upd a24 c _ c).toInt = _; rw [upd_s]; exact hC.1⟩, rfl, rfl, rfl, rfl, rfl, Sm_u⟩
theorem cmK_n (h : ¬ (T p = 119 ∨ T p = 115)) : cmK T p = [] := by
  unfold cmK; rw [if_neg (fun z => h z.1)]
theorem cmK_s (h : T p = 115) : cmK T p = (if T (p + 1) = 40 then cmC T (p + 1) else []) := by
  have e : hdq T p = p + 1 := by unfold hdq; rw [if_neg (by omega)]
  unfold cmK; rw [e]
  by_cases w : T (p + 1) = 40
  · rw [if_pos w, if_pos ⟨Or.inr h, w⟩]
  · rw [if_neg w, if_neg (fun z => w z.2)]
theorem cmK_w (h : T p = 119) : cmK T p = (if T (spW T (p + 1)).2 = 40 then cmC T (spW T (p + 1)).2 else []) := by
  have e : hdq T p = (spW T (p + 1)).2 := by unfold hdq; rw [if_pos h]
  unfold cmK; rw [e]
  by_cases w : T (spW T (p + 1)).2 = 40
  · rw [if_pos w, if_pos ⟨Or.inl h, w⟩]
  · rw [if_neg w, if_neg (fun z => w z.2)]
/-- a clause without a condition puts nothing down -/
theorem ME_no {f4 : Nat → Int32} {q2 : Nat} (hk : cmK T p = []) (hC : CD i6 g25 g26 E (i13, a25, a26)) (hE : E.length ≤ q2) : ME i6 g25 g26 E (cmK T p) q2 c (upd b3 c i13) (upd f4 c i13) (i13, a25, a26) := by
  rw [hk]
  unfold ME
  rw [List.append_nil]
  exact ⟨hC, hE, by rw [upd_s]; exact hC.1, by rw [upd_s]; exact hC.1⟩
theorem m_clause {r : Nat} (hT : TXT T n) (hx : TXM T n i10 a1) (hg : i11.toInt = 0) (hi : i6.toInt = (r : Int)) (hr : r < 20) (hj : i12.toInt = (j : Int)) (hj16 : j ≤ 16) (hy : i9.toInt = (p : Int)) (hp : p ≤ n) (hC : CD i6 g25 g26 E (i13, a25, a26)) (hE : E.length ≤ p) :
    YC T j p (16 * r + j) i6 g25 g26 E a19 a20 a21 a22 a23 a24 (F_m12_clause i6 i9 i10 i11 i12 i13 i14 i15 i16 i17 a1 a19 a20 a21 a22 a23 a24 a25 a26 a27) := by
  have h160 := hT.1
  have hF := CD_frm hC
  have q0 := hr_of hT hx hy
  have e1 := c1
  have c4 : (4 : Int32).toInt = 4 := by decide
  have f1 := fl0 (f := 1) (a := i9) hg (by omega) (by omega)
  have f4 := fl0 (f := 4) (a := i9) hg (by omega) (by omega)
  have bad6 : ∀ (v x : Int32), x.toInt ≠ 0 → f_m12_clause_j6 i6 i9 i10 i12 i13 i14 i15 i16 i17 a1 a19 a20 a21 a22 a23 a24 a25 a26 a27 v x = (i9, x, i12, i13, i14, i15, i16, i17, a19, a20, a21, a22, a23, a24, a25, a26, a27) := by
    intro v x h
    rw [E_m12_clause_j6, good0 h, if_neg n00]
  by_cases hk : T p = 119 ∨ T p = 115 ∨ T p = 107 ∨ T p = 118 ∨ T p = 111
  · have hpn := T_in hT (p := p) (by omega)
    have hy1 := suc_of hy (by omega)
    have e5 : F_m12_clause i6 i9 i10 i11 i12 i13 i14 i15 i16 i17 a1 a19 a20 a21 a22 a23 a24 a25 a26 a27 = f_m12_clause_j296 i6 i9 i10 i11 i12 i13 i14 i15 i16 i17 a1 a19 a20 a21 a22 a23 a24 a25 a26 a27 (F_m12_here i9 i10 a1) := by
      rw [E_m12_clause]
      by_cases k1 : (F_m12_here i9 i10 a1).toInt = 119
      · rw [if_pos k1]
      · rw [if_neg k1]
        by_cases k2 : (F_m12_here i9 i10 a1).toInt = 115
        · rw [if_pos k2]
        · rw [if_neg k2]
          by_cases k3 : (F_m12_here i9 i10 a1).toInt = 107
          · rw [if_pos k3]
          · rw [if_neg k3]
            by_cases k4 : (F_m12_here i9 i10 a1).toInt = 118
            · rw [if_pos k4]
            · rw [if_neg k4, if_pos (by omega)]
    rw [e5, E_m12_clause_j296]
    generalize F_m12_here i9 i10 a1 = v at q0
    unfold YC
    by_cases hj2 : j < 16
    · have e : spCl T j p = spK T p := by unfold spCl; rw [if_pos hk, if_neg (by omega)]
      have c16 : (16 : Int32).toInt = 16 := by decide
      have m1 : ((16 : Int32) * i6).toInt = 16 * (r : Int) := toInt_mul c16 hi rfl (by omega) (by omega)
      have m2 := toInt_add m1 hj (by omega) (by omega)
      have hz : (16 * i6 + i12).toInt = ((16 * r + j : Nat) : Int) := by omega
      have hzc := nc hz
      have hj1 := suc_of hj (by omega)
      rw [if_pos (show i12.toInt ≠ 16 by omega), E_m12_clause_j6, good1 hg, if_pos y10, nc hz, e]
      unfold spK
      by_cases k1 : T p = 119
      · rw [if_neg (show ¬ v.toInt ≠ 119 by omega), if_pos k1]
        have W := m_must (p0 := 16 * i6 + i12) (c := 16 * r + j) (a20 := a20) (a21 := a21) (a22 := a22) hT hx hg hz hy1 (by omega)
        have W2 := spW_ok hT (show p + 1 ≤ n by omega)
        generalize F_m12_readsMust (16 * i6 + i12) (i9 + 1) i10 i11 a1 a20 a21 a22 = t at W
        obtain ⟨t1, t2, t3, t4, t5⟩ := t
        obtain ⟨W, s0, s1, s2⟩ := W
        dsimp only
        rcases W with ⟨w1, w2⟩ | ⟨w1, w2, w3, w4, w5, w6⟩
        · have w2' : t2.toInt = (spW T (p + 1)).1 := w2
          rw [seq_n w1, j30_bad (by omega) hzc]
          exact ⟨Or.inl ⟨w1, w2, hF⟩, Sm_u, s0, s1, s2, Sm_u, Sm_u⟩
        · have w3' : t2 = i11 := w3
          have w2' : t1.toInt = ((spW T (p + 1)).2 : Int) := w2
          clear w2 w3
          subst w3'
          have wn : p + 1 < (spW T (p + 1)).2 ∧ (spW T (p + 1)).2 ≤ n := by
            rcases W2 with ⟨_, y, z⟩ | z
            · exact ⟨y, z⟩
            · omega
          rw [seq_y w1]
          obtain ⟨J, z1, z2, z3, z4, z5, z6⟩ := j30_tail (i12 := i12) (i14 := i14) (i15 := i15) (i16 := i16) (i17 := i17) (a24 := a24) (a27 := a27) (v := v) (b9 := upd a19 (16 * r + j) v) (b0 := t3) (b1 := t4) (b2 := t5) (b3 := upd a23 (16 * r + j) i13) hT hx hg (Or.inl (by omega)) w2' wn.2 hj hj2 hzc hC (by omega) rfl
          rw [z1, z2, z3, z4, z5]
          refine ⟨?_, Sm_u, s0, s1, s2, Sm_u, z6⟩
          rcases J with J | ⟨J1, J2, J3, J4, J5, J6, J7⟩
          · exact Or.inl J
          · refine Or.inr ⟨J1, J2, J3, J4, by rw [upd_s]; exact q0, ⟨fun _ => ⟨?_, ?_, ?_⟩, fun h => by omega, fun h => by omega, fun h => by omega⟩, ?_⟩
            · unfold dS; rw [if_pos k1]; exact w4
            · unfold dG; exact w5
            · unfold dV; rw [if_pos k1]; exact w6
            · rw [cmK_w k1]
              exact ⟨J5, J6, by rw [upd_s]; exact hC.1, J7⟩
      · rw [if_pos (show v.toInt ≠ 119 by omega), if_neg k1]
        by_cases k3 : T p = 107
        · rw [if_neg (show ¬ v.toInt ≠ 107 by omega), if_neg (show ¬ T p = 115 by omega), if_pos k3]
          have W := m_rank (p0 := 16 * i6 + i12) (c := 16 * r + j) (a20 := a20) (a21 := a21) (a22 := a22) hT hx hg hz hy1 (by omega)
          have W2 := spR_ok hT (show p + 1 ≤ n by omega)
          generalize F_m12_readsRank (16 * i6 + i12) (i9 + 1) i10 i11 a1 a20 a21 a22 = t at W
          obtain ⟨t1, t2, t3, t4, t5⟩ := t
          obtain ⟨W, s0, s1, s2⟩ := W
          dsimp only
          rcases W with ⟨w1, w2⟩ | ⟨w1, w2, w3, w4, w5, w6⟩
          · have w2' : t2.toInt = (spR T (p + 1)).1 := w2
            rw [j30_bad (by omega) hzc]
            exact ⟨Or.inl ⟨w1, w2, hF⟩, Sm_u, s0, s1, s2, Sm_u, Sm_u⟩
          · have w3' : t2 = i11 := w3
            have wq : p + 1 < (spR T (p + 1)).2 := by
              rcases W2 with ⟨_, y, z⟩ | z
              · exact y
              · omega
            rw [w3', j30_no hg (by omega) (by omega) hzc]
            exact ⟨Or.inr ⟨w1, w2, hg, hj1, by show (upd a19 _ v _).toInt = _; rw [upd_s]; exact q0, ⟨fun h => by omega, fun _ => ⟨w4, w5, w6⟩, fun h => by omega, fun h => by omega⟩, ME_no (cmK_n (by omega)) hC (by omega)⟩, Sm_u, s0, s1, s2, Sm_u, Sm_u⟩
        · rw [if_pos (show v.toInt ≠ 107 by omega)]
          by_cases k4 : T p = 118
          · rw [if_neg (show ¬ v.toInt ≠ 118 by omega), if_neg (show ¬ T p = 115 by omega), if_neg k3, if_pos k4]
            have W2 := spH_ok hT (show p + 1 ≤ n by omega)
            have q1 := hr_of hT hx hy1
            have c48' := c48
            have f11 := fl0 (f := 1) (a := i9 + 1) hg (by omega) (by omega)
            unfold spH at W2 ⊢
            by_cases w : 48 ≤ T (p + 1) ∧ T (p + 1) ≤ 49
            · have hpn1 := T_in hT (p := p + 1) (by omega)
              have hy2 := suc_of hy1 (by omega)
              have q2 := hr_of hT hx hy2
              have c46 : (46 : Int32).toInt = 46 := by decide
              have f12 := fl0 (f := 1) (a := i9 + 1 + 1) hg (by omega) (by omega)
              have e6 : (if (F_m12_here (i9 + 1) i10 a1).toInt = 48 then f_m12_clause_j166 i6 i10 i12 i13 i14 i15 i16 i17 a1 a20 a21 a22 a24 a25 a26 a27 v (16 * i6 + i12) (upd a19 (16 * r + j) v) (upd a23 (16 * r + j) i13) (i9 + 1) i11 else (if (F_m12_here (i9 + 1) i10 a1).toInt = 49 then f_m12_clause_j166 i6 i10 i12 i13 i14 i15 i16 i17 a1 a20 a21 a22 a24 a25 a26 a27 v (16 * i6 + i12) (upd a19 (16 * r + j) v) (upd a23 (16 * r + j) i13) (i9 + 1) i11 else f_m12_clause_j166 i6 i10 i12 i13 i14 i15 i16 i17 a1 a20 a21 a22 a24 a25 a26 a27 v (16 * i6 + i12) (upd a19 (16 * r + j) v) (upd a23 (16 * r + j) i13) (i9 + 1) (F_m12_fails 1 (i9 + 1) i11))) = f_m12_clause_j166 i6 i10 i12 i13 i14 i15 i16 i17 a1 a20 a21 a22 a24 a25 a26 a27 v (16 * i6 + i12) (upd a19 (16 * r + j) v) (upd a23 (16 * r + j) i13) (i9 + 1) i11 := by
                by_cases w1 : (F_m12_here (i9 + 1) i10 a1).toInt = 48
                · rw [if_pos w1]
                · rw [if_neg w1, if_pos (by omega)]
              rw [if_neg (fun z => z w)] at W2
              rw [e6, if_neg (fun z => z w), E_m12_clause_j166, good1 hg, if_neg n10, nc hz]
              have es := toInt_sub q1 c48 (by omega) (by omega)
              by_cases w2 : T (p + 1 + 1) = 46
              · have hpn2 := T_in hT (p := p + 1 + 1) (by omega)
                have hy3 := suc_of hy2 (by omega)
                rw [if_neg (fun z => z w2)] at W2
                rw [must1 (by omega), if_neg (fun z => z w2), E_m12_clause_j187]
                dsimp only
                rw [good1 hg, if_neg n10, nc hz]
                have c100 : (100 : Int32).toInt = 100 := by decide
                have N := mnum (p0 := 100) hT hx hy3 (by omega) (by rw [c100]; decide) hg
                rw [c100] at N
                rcases N with ⟨m1, m2, m3, m4⟩ | ⟨m1, m2⟩
                · have wq : p + 1 < (spO T 100 (p + 1 + 2)).2 := by
                    rcases W2 with ⟨_, y, z⟩ | z
                    · exact y
                    · have z' : (spN T 100 (p + 1 + 1 + 1)).1 < 0 := z.1
                      omega
                  have wq' : p + 1 < (spN T 100 (p + 1 + 1 + 1)).2.1 := wq
                  rw [j30_no m4 (by omega) (by omega) hzc]
                  refine ⟨Or.inr ⟨m1, m3, m4, hj1, by show (upd a19 _ v _).toInt = _; rw [upd_s]; exact q0, ⟨fun h => by omega, fun h => by omega, fun _ => ⟨?_, ?_⟩, fun h => by omega⟩, ME_no (cmK_n (by omega)) hC (by show E.length ≤ (spN T 100 (p + 1 + 1 + 1)).2.1; omega)⟩, Sm_u, Sm_u, Sm_u, Sm_r, Sm_u, Sm_u⟩
                  · show (upd a20 _ _ _).toInt = _; rw [upd_s]; unfold dS; rw [if_neg k1, if_pos k4]; exact es
                  · show (upd a21 _ _ _).toInt = _; rw [upd_s]; unfold dV; rw [if_neg k1, if_neg k3, if_pos k4]; exact m2
                · rw [j30_bad (by omega) hzc]
                  exact ⟨Or.inl ⟨m1, m2, hF⟩, Sm_u, Sm_u, Sm_u, Sm_r, Sm_u, Sm_u⟩
              · rw [must0 (by omega), if_pos w2, E_m12_clause_j187]
                dsimp only
                rw [good0 (by omega), if_pos y00, j30_bad (by omega) hzc]
                exact ⟨Or.inl ⟨by show -1000 - ((p + 1 + 1 : Nat) : Int) < 0; omega, by show (F_m12_fails 1 (i9 + 1 + 1) i11).toInt = -1000 - ((p + 1 + 1 : Nat) : Int); omega, hF⟩, Sm_u, Sm_u, Sm_r, Sm_r, Sm_u, Sm_u⟩
            · rw [if_pos w, if_neg (show ¬ (F_m12_here (i9 + 1) i10 a1).toInt = 48 by omega), if_neg (show ¬ (F_m12_here (i9 + 1) i10 a1).toInt = 49 by omega), E_m12_clause_j166, good0 (by omega), if_pos y00, E_m12_clause_j187, good0 (by omega), if_pos y00, j30_bad (by omega) hzc, nc hz]
              exact ⟨Or.inl ⟨by show -1000 - ((p + 1 : Nat) : Int) < 0; omega, by show (F_m12_fails 1 (i9 + 1) i11).toInt = -1000 - ((p + 1 : Nat) : Int); omega, hF⟩, Sm_u, Sm_u, Sm_r, Sm_r, Sm_u, Sm_u⟩
          · rw [if_pos (show v.toInt ≠ 118 by omega)]
            by_cases k5 : T p = 111
            · rw [if_neg (show ¬ v.toInt ≠ 111 by omega), if_neg (show ¬ T p = 115 by omega), if_neg k3, if_neg k4]
              have c9 : (99999 : Int32).toInt = 99999 := by decide
              have N := mnum (p0 := 99999) hT hx hy1 (by omega) (by rw [c9]; decide) hg
              rw [c9] at N
              rcases N with ⟨m1, m2, m3, m4⟩ | ⟨m1, m2⟩
              · have s := spN_at hT (show p + 1 ≤ n by omega) m1
                rw [j30_no m4 (by omega) (by omega) hzc]
                refine ⟨Or.inr ⟨m1, m3, m4, hj1, by show (upd a19 _ v _).toInt = _; rw [upd_s]; exact q0, ⟨fun h => by omega, fun h => by omega, fun h => by omega, fun _ => ?_⟩, ME_no (cmK_n (by omega)) hC (by show E.length ≤ (spN T 99999 (p + 1)).2.1; omega)⟩, Sm_u, Sm_u, Sm_r, Sm_r, Sm_u, Sm_u⟩
                show (upd a20 _ _ _).toInt = _; rw [upd_s]; unfold dV; rw [if_neg k1, if_neg k3, if_neg k4, if_pos k5]; exact m2
              · rw [j30_bad (by omega) hzc]
                exact ⟨Or.inl ⟨m1, m2, hF⟩, Sm_u, Sm_u, Sm_r, Sm_r, Sm_u, Sm_u⟩
            · have k2 : T p = 115 := by omega
              rw [if_pos (show v.toInt ≠ 111 by omega), if_pos k2]
              obtain ⟨J, z1, z2, z3, z4, z5, z6⟩ := j30_tail (i12 := i12) (i14 := i14) (i15 := i15) (i16 := i16) (i17 := i17) (a24 := a24) (a27 := a27) (v := v) (b9 := upd a19 (16 * r + j) v) (b0 := a20) (b1 := a21) (b2 := a22) (b3 := upd a23 (16 * r + j) i13) hT hx hg (Or.inr (by omega)) hy1 (show p + 1 ≤ n by omega) hj hj2 hzc hC (by omega) rfl
              rw [z1, z2, z3, z4, z5]
              refine ⟨?_, Sm_u, Sm_r, Sm_r, Sm_r, Sm_u, z6⟩
              rcases J with J | ⟨J1, J2, J3, J4, J5, J6, J7⟩
              · exact Or.inl J
              · refine Or.inr ⟨J1, J2, J3, J4, by rw [upd_s]; exact q0, ⟨fun h => by omega, fun h => by omega, fun h => by omega, fun h => by omega⟩, ?_⟩
                rw [cmK_s k2]
                exact ⟨J5, J6, by rw [upd_s]; exact hC.1, J7⟩
    · have e : spCl T j p = (-4000 - (p : Int), p) := by unfold spCl; rw [if_pos hk, if_pos (by omega)]
      rw [if_neg (show ¬ i12.toInt ≠ 16 by omega), bad6 _ _ (by omega), e]
      exact ⟨Or.inl ⟨by show -4000 - (p : Int) < 0; omega, by show (F_m12_fails 4 i9 i11).toInt = -4000 - (p : Int); omega, hF⟩, Sm_r, Sm_r, Sm_r, Sm_r, Sm_r, Sm_r⟩
  · have e : spCl T j p = (-1000 - (p : Int), p) := by unfold spCl; rw [if_neg hk]
    rw [E_m12_clause, if_neg (by omega), if_neg (by omega), if_neg (by omega), if_neg (by omega), if_neg (by omega), bad6 _ _ (by omega)]
    unfold YC
    rw [e]
    exact ⟨Or.inl ⟨by show -1000 - (p : Int) < 0; omega, by show (F_m12_fails 1 i9 i11).toInt = -1000 - (p : Int); omega, hF⟩, Sm_r, Sm_r, Sm_r, Sm_r, Sm_r, Sm_r⟩
end MCL2
