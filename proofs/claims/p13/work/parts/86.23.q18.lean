/-! small calls, on both sides -/
theorem R_now {u0 i1 : Int32} (h : 0 ≤ i1.toInt ∧ i1.toInt ≤ 3999) : F_x11_now u0 i1 = F_m12_now u0 i1 ∧ 0 ≤ (F_x11_now u0 i1).2.toInt ∧ (F_x11_now u0 i1).2.toInt ≤ 3999 := by
  rw [E_x11_now, E_m12_now]
  rcases mlie (u := u0) (a := i1) (b := 3999) rfl (show (3999 : Int32).toInt = 3999 by decide) with ⟨g1, g⟩ | ⟨g1, g⟩
  · rw [g, if_pos y10]
    rcases xday (u := u0) with ⟨_, k⟩ | ⟨k1, _⟩
    · rw [k, if_neg n10, if_pos (show u0.toInt ≥ i1.toInt by omega)]
      exact ⟨rfl, by show 0 ≤ u0.toInt; omega, by show u0.toInt ≤ 3999; omega⟩
    · omega
  · rw [g, if_neg n00]
    rcases xday (u := u0) with ⟨_, k⟩ | ⟨_, k⟩
    · rw [k, if_neg n10, if_neg (show ¬ u0.toInt ≥ i1.toInt by omega)]
      exact ⟨rfl, h⟩
    · rw [k, if_pos y00]
      exact ⟨rfl, h⟩
theorem VRS_add {i3 j3 v : Int32} {a7 b2 : Nat → Int32} {r : Nat} (hr : i3.toInt = (r : Int)) (hj : j3.toInt = (r : Int) + 1) (h : VRS i3 a7 b2) (hv : 0 ≤ v.toInt ∧ v.toInt ≤ 7) : VRS j3 (upd a7 r v) (upd b2 r v) := by
  intro i hi
  by_cases w : i = r
  · subst w
    rw [upd_s, upd_s]; exact ⟨rfl, hv⟩
  · have n : ∀ (f : Nat → Int32) (x : Int32), upd f r x i = f i := fun f x => by unfold upd; rw [if_neg w]
    rw [n, n]; exact h i (by omega)
def RVE (x : Int32 × Int32 × (Nat → Int32) × (Nat → Int32)) (m : Int32 × Int32 × (Nat → Int32) × (Nat → Int32)) : Prop := x.1 = m.1 ∧ x.2.1 = m.2.1 ∧ VRS x.2.1 x.2.2.1 m.2.2.1 ∧ 0 ≤ x.2.1.toInt ∧ x.2.1.toInt ≤ 60
theorem R_verse {u0 u1 i3 : Int32} {a7 a8 b2 b3 : Nat → Int32} (h : 0 ≤ i3.toInt ∧ i3.toInt ≤ 60) (hV : VRS i3 a7 b2) : RVE (F_x11_verse u0 u1 i3 a7 a8) (F_m12_verse u0 u1 i3 b2 b3) := by
  have c7 : (7 : Int32).toInt = 7 := by decide
  have c40 : (40 : Int32).toInt = 40 := by decide
  have no : RVE ((-1 : Int32), i3, a7, a8) ((-1 : Int32), i3, b2, b3) := ⟨rfl, rfl, hV, h⟩
  rw [E_x11_verse, E_m12_verse, E_x9_enter]
  rcases mlie (u := u0) c0 c7 with ⟨g1, g⟩ | ⟨g1, g⟩
  · rcases mlie (u := u1) c0 c40 with ⟨k1, k⟩ | ⟨k1, k⟩
    · rw [g, k, if_neg n10, if_pos y10, if_neg (show ¬ u0.toInt < 0 by omega), if_neg (show ¬ u0.toInt > 7 by omega), if_neg (show ¬ u1.toInt < 0 by omega), if_pos (show u1.toInt ≤ 40 by omega)]
      by_cases w : i3.toInt = 60
      · rw [if_pos w, if_neg (show ¬ i3.toInt < 60 by omega)]
        exact no
      · rw [if_neg w, if_pos (show i3.toInt < 60 by omega)]
        obtain ⟨r, hr⟩ : ∃ r : Nat, i3.toInt = (r : Int) := ⟨i3.toInt.toNat, by omega⟩
        have ej := toInt_add hr c1 (by omega) (by omega)
        rw [nc hr]
        exact ⟨rfl, rfl, VRS_add hr ej hV g1, by show 0 ≤ (i3 + 1).toInt; omega, by show (i3 + 1).toInt ≤ 60; omega⟩
    · have e : (if i3.toInt = 60 then ((-1 : Int32), i3, b2, b3) else (if (F_m12_lies u0 0 7).toInt = 0 then ((-1 : Int32), i3, b2, b3) else (if (F_m12_lies u1 0 40).toInt ≠ 0 then (i3 + 1 - 1, i3 + 1, upd b2 i3.toNatClampNeg u0, upd b3 i3.toNatClampNeg u1) else ((-1 : Int32), i3, b2, b3)))) = ((-1 : Int32), i3, b2, b3) := by
        rw [g, k, if_neg n10, if_neg n00]
        by_cases w : i3.toInt = 60
        · rw [if_pos w]
        · rw [if_neg w]
      rw [e, if_neg (show ¬ u0.toInt < 0 by omega), if_neg (show ¬ u0.toInt > 7 by omega)]
      by_cases w : u1.toInt < 0
      · rw [if_pos w]; exact no
      · rw [if_neg w, if_neg (show ¬ u1.toInt ≤ 40 by omega)]; exact no
  · have e : (if i3.toInt = 60 then ((-1 : Int32), i3, b2, b3) else (if (F_m12_lies u0 0 7).toInt = 0 then ((-1 : Int32), i3, b2, b3) else (if (F_m12_lies u1 0 40).toInt ≠ 0 then (i3 + 1 - 1, i3 + 1, upd b2 i3.toNatClampNeg u0, upd b3 i3.toNatClampNeg u1) else ((-1 : Int32), i3, b2, b3)))) = ((-1 : Int32), i3, b2, b3) := by
      rw [g, if_pos y00]
      by_cases w : i3.toInt = 60
      · rw [if_pos w]
      · rw [if_neg w]
    rw [e]
    by_cases w : u0.toInt < 0
    · rw [if_pos w]; exact no
    · rw [if_neg w, if_pos (show u0.toInt > 7 by omega)]; exact no
theorem PPL_add {i6 j6 v : Int32} {a13 b8 : Nat → Int32} {r : Nat} (hr : i6.toInt = (r : Int)) (hj : j6.toInt = (r : Int) + 1) (h : PPL i6 a13 b8) : PPL j6 (upd a13 r v) (upd b8 r v) := by
  intro i hi
  by_cases w : i = r
  · subst w
    rw [upd_s, upd_s]
  · have n : ∀ (f : Nat → Int32) (x : Int32), upd f r x i = f i := fun f x => by unfold upd; rw [if_neg w]
    rw [n, n]; exact h i (by omega)
def RCO (x : Int32 × Int32 × (Nat → Int32) × (Nat → Int32)) (m : Int32 × Int32 × (Nat → Int32)) : Prop := x.1 = m.1 ∧ x.2.1 = m.2.1 ∧ PPL x.2.1 x.2.2.1 m.2.2 ∧ 0 ≤ x.2.1.toInt ∧ x.2.1.toInt ≤ 6
theorem R_company {u0 u1 i6 : Int32} {a13 a14 b8 : Nat → Int32} (h : 0 ≤ i6.toInt ∧ i6.toInt ≤ 6) (hP : PPL i6 a13 b8) : RCO (F_x11_company u0 u1 i6 a13 a14) (F_m12_company u0 u1 i6 b8) := by
  have c255 : (255 : Int32).toInt = 255 := by decide
  have c99 : (99 : Int32).toInt = 99 := by decide
  have no : RCO ((-1 : Int32), i6, a13, a14) ((-1 : Int32), i6, b8) := ⟨rfl, rfl, hP, h⟩
  have rt : F_x11_isRate u1 = if u1.toInt < 0 then (0 : Int32) else (if u1.toInt > 99 then (0 : Int32) else (1 : Int32)) := rfl
  rw [E_x11_company, E_m12_company, E_x4_enterCompany, rt]
  rcases mlie (u := u0) c0 c255 with ⟨g1, g⟩ | ⟨g1, g⟩
  · rcases mlie (u := u1) c0 c99 with ⟨k1, k⟩ | ⟨k1, k⟩
    · rw [g, k, if_neg n10, if_pos y10, if_neg (show ¬ u0.toInt < 0 by omega), if_neg (show ¬ u0.toInt > 255 by omega), if_neg (show ¬ u1.toInt < 0 by omega), if_neg (show ¬ u1.toInt > 99 by omega), if_pos y10]
      by_cases w : i6.toInt = 6
      · rw [if_pos w, if_neg (show ¬ i6.toInt < 6 by omega)]
        exact no
      · rw [if_neg w, if_pos (show i6.toInt < 6 by omega)]
        obtain ⟨r, hr⟩ : ∃ r : Nat, i6.toInt = (r : Int) := ⟨i6.toInt.toNat, by omega⟩
        have ej := toInt_add hr c1 (by omega) (by omega)
        rw [nc hr]
        exact ⟨rfl, rfl, PPL_add hr ej hP, by show 0 ≤ (i6 + 1).toInt; omega, by show (i6 + 1).toInt ≤ 6; omega⟩
    · have e : (if i6.toInt = 6 then ((-1 : Int32), i6, b8) else (if (F_m12_lies u0 0 255).toInt = 0 then ((-1 : Int32), i6, b8) else (if (F_m12_lies u1 0 99).toInt ≠ 0 then (i6 + 1 - 1, i6 + 1, upd b8 i6.toNatClampNeg u0) else ((-1 : Int32), i6, b8)))) = ((-1 : Int32), i6, b8) := by
        rw [g, k, if_neg n10, if_neg n00]
        by_cases w : i6.toInt = 6
        · rw [if_pos w]
        · rw [if_neg w]
      rw [e, if_neg (show ¬ u0.toInt < 0 by omega), if_neg (show ¬ u0.toInt > 255 by omega)]
      by_cases w : u1.toInt < 0
      · rw [if_pos w, if_neg n00]; exact no
      · rw [if_neg w, if_pos (show u1.toInt > 99 by omega), if_neg n00]; exact no
  · have e : (if i6.toInt = 6 then ((-1 : Int32), i6, b8) else (if (F_m12_lies u0 0 255).toInt = 0 then ((-1 : Int32), i6, b8) else (if (F_m12_lies u1 0 99).toInt ≠ 0 then (i6 + 1 - 1, i6 + 1, upd b8 i6.toNatClampNeg u0) else ((-1 : Int32), i6, b8)))) = ((-1 : Int32), i6, b8) := by
      rw [g, if_pos y00]
      by_cases w : i6.toInt = 6
      · rw [if_pos w]
      · rw [if_neg w]
    rw [e]
    by_cases w : u0.toInt < 0
    · rw [if_pos w]; exact no
    · rw [if_neg w, if_pos (show u0.toInt > 255 by omega)]; exact no
def RSC (x : Int32 × Int32 × (Nat → Int32)) (m : Int32 × Int32) : Prop := x.1 = m.1 ∧ x.2.1 = m.2 ∧ 0 ≤ x.2.1.toInt ∧ x.2.1.toInt ≤ 24
theorem R_scholar {u0 u1 i6 i7 : Int32} {a15 : Nat → Int32} (h6 : 0 ≤ i6.toInt ∧ i6.toInt ≤ 6) (h7 : 0 ≤ i7.toInt ∧ i7.toInt ≤ 24) : RSC (F_x11_scholar u0 u1 i6 i7 a15) (F_m12_scholar u0 i6 i7) := by
  have e1 : (i6 - 1).toInt = i6.toInt - 1 := by have := toInt_sub (x := i6) rfl c1 (by omega) (by omega); omega
  have no : RSC ((-1 : Int32), i7, a15) ((-1 : Int32), i7) := ⟨rfl, rfl, h7⟩
  rw [E_x11_scholar, E_m12_scholar, E_x4_enterScholar]
  rcases mlie (u := u0) c0 e1 with ⟨g1, g⟩ | ⟨g1, g⟩
  · rcases xcom (u := u0) (i6 := i6) with ⟨_, k⟩ | ⟨k1, _⟩
    · rw [g, k, if_neg n10, if_pos y10, if_pos y10]
      by_cases w : i7.toInt = 24
      · rw [if_pos w, if_pos (show i7.toInt ≥ 24 by omega)]; exact no
      · rw [if_neg w, if_neg (show ¬ i7.toInt ≥ 24 by omega)]
        have ej := toInt_add (x := i7) rfl c1 (by omega) (by omega)
        by_cases z : u1.toInt = 0
        · rw [if_pos z]
          exact ⟨rfl, rfl, by show 0 ≤ (i7 + 1).toInt; omega, by show (i7 + 1).toInt ≤ 24; omega⟩
        · rw [if_neg z]
          exact ⟨rfl, rfl, by show 0 ≤ (i7 + 1).toInt; omega, by show (i7 + 1).toInt ≤ 24; omega⟩
    · omega
  · rcases xcom (u := u0) (i6 := i6) with ⟨k1, _⟩ | ⟨_, k⟩
    · omega
    · rw [g, k, if_pos y00, if_neg n00]
      by_cases w : i7.toInt = 24
      · rw [if_pos w]; exact no
      · rw [if_neg w]; exact no
def VDS (i8 : Int32) (b12 : Nat → Int32) : Prop := ∀ s : Nat, s < 24 → (bitI i8 s = true ↔ (b12 s).toInt ≠ 0)
theorem xsch {u i7 : Int32} : ((0 ≤ u.toInt ∧ u.toInt < i7.toInt) ∧ F_x4_hasScholar u i7 = 1) ∨ (¬ (0 ≤ u.toInt ∧ u.toInt < i7.toInt) ∧ F_x4_hasScholar u i7 = 0) := by
  rw [E_x4_hasScholar]
  by_cases h : u.toInt < 0
  · right; rw [if_pos h]; exact ⟨by omega, rfl⟩
  · rw [if_neg h]
    by_cases g : u.toInt ≥ i7.toInt
    · right; rw [if_pos g]; exact ⟨by omega, rfl⟩
    · left; rw [if_neg g]; exact ⟨by omega, rfl⟩
theorem vd_at {u i8 : Int32} {b12 : Nat → Int32} (h : VDS i8 b12) (h0 : 0 ≤ u.toInt ∧ u.toInt < 24) : ((b12 u.toNatClampNeg).toInt = 0 ∧ F_x4_isVoid u i8 = 0) ∨ ((b12 u.toNatClampNeg).toInt ≠ 0 ∧ F_x4_isVoid u i8 = 1) := by
  have p := qI_pow (x := i8) h0.1 (by omega)
  have q := h u.toInt.toNat (by omega)
  have e : u.toNatClampNeg = u.toInt.toNat := rfl
  rw [E_x4_isVoid, e]
  by_cases w : bitI i8 u.toInt.toNat = false
  · left
    rw [if_pos (p.mpr w)]
    refine ⟨?_, rfl⟩
    by_cases z : (b12 u.toInt.toNat).toInt = 0
    · exact z
    · have := q.mpr z; rw [w] at this; cases this
  · right
    have w' : bitI i8 u.toInt.toNat = true := by revert w; cases bitI i8 u.toInt.toNat <;> simp
    rw [if_neg (fun z => w (p.mp z))]
    exact ⟨q.mp w', rfl⟩
theorem void_loop {i7 : Int32} {a12 : Nat → Int32} : ∀ (m f : Nat) (x : Int32), 0 ≤ x.toInt → i7.toInt = x.toInt + m → i7.toInt ≤ 200 → m < f → f_m12_voids_j14 i7 a12 f x = a12 := by
  intro m
  induction m with
  | zero =>
    intro f x h0 hu _ hf
    obtain ⟨f, rfl⟩ : ∃ w, f = w + 1 := ⟨f - 1, by omega⟩
    rw [S_m12_voids_j14, if_pos (by omega)]
  | succ m ih =>
    intro f x h0 hu hu2 hf
    obtain ⟨f, rfl⟩ : ∃ w, f = w + 1 := ⟨f - 1, by omega⟩
    have hx1 := toInt_add (x := x) rfl co1 (by omega) (by omega)
    rw [S_m12_voids_j14, if_neg (by omega)]
    exact ih f (x + Int32.ofInt 1) (by omega) (by omega) hu2 (by omega)
theorem R_voids {u0 i5 i7 i8 : Int32} {b12 : Nat → Int32} (h5 : 0 ≤ i5.toInt ∧ i5.toInt ≤ 24) (h7 : 0 ≤ i7.toInt ∧ i7.toInt ≤ 200) (h : VDS i8 b12) : VDS (F_x11_voids u0 i5 i8) (F_m12_voids u0 i5 i7 b12) := by
  have e1 : (i5 - 1).toInt = i5.toInt - 1 := by have := toInt_sub (x := i5) rfl c1 (by omega) (by omega); omega
  rw [E_x11_voids, E_m12_voids]
  rcases mlie (u := u0) c0 e1 with ⟨g1, g⟩ | ⟨g1, g⟩
  · rcases xsch (u := u0) (i7 := i5) with ⟨_, k⟩ | ⟨k1, _⟩
    · rw [g, k, if_neg n10, if_neg n10]
      rcases vd_at h (u := u0) (by omega) with ⟨v1, v⟩ | ⟨v1, v⟩
      · rw [v, if_pos y00, if_pos v1, E_x4_makeVoid, void_loop i7.toInt.toNat 201 0 (by decide) (by rw [c0]; omega) h7.2 (by omega)]
        intro s hs
        rw [qI_or, qI_sh g1.1 (by omega)]
        have e : u0.toNatClampNeg = u0.toInt.toNat := rfl
        unfold upd
        rw [e]
        by_cases w : u0.toInt.toNat = s
        · rw [decide_eq_true w, Bool.or_true, if_pos w.symm]
          exact ⟨fun _ => by decide, fun _ => rfl⟩
        · rw [decide_eq_false w, Bool.or_false, if_neg (fun z => w z.symm)]
          exact h s hs
      · rw [v, if_neg n10, if_neg v1]; exact h
    · omega
  · rcases xsch (u := u0) (i7 := i5) with ⟨k1, _⟩ | ⟨_, k⟩
    · omega
    · rw [g, k, if_pos y00, if_pos y00]; exact h
theorem R_check {u0 i0 n0 : Int32} (h : 0 ≤ i0.toInt ∧ i0.toInt ≤ 200) (hn : (n0.toInt = 0 ∧ u0.toInt ≥ 0 ∧ u0.toInt ≤ 60 ∧ 2 * u0.toInt ≤ i0.toInt) ∨ (n0.toInt = i0.toInt ∧ u0.toInt < 0) ∨ (n0.toInt = i0.toInt ∧ u0.toInt > 60) ∨ (n0.toInt = i0.toInt ∧ i0.toInt < 2 * u0.toInt)) : F_x11_check u0 i0 = n0 := by
  have c2 : (2 : Int32).toInt = 2 := by decide
  have e0 := c0
  rw [E_x11_check]
  by_cases w1 : u0.toInt < 0
  · rw [if_pos w1]; exact eq_of_toInt (by omega)
  · rw [if_neg w1]
    by_cases w2 : u0.toInt > 60
    · rw [if_pos w2]; exact eq_of_toInt (by omega)
    · have m : ((2 : Int32) * u0).toInt = 2 * u0.toInt := toInt_mul c2 rfl rfl (by omega) (by omega)
      rw [if_neg w2]
      by_cases w3 : ((2 : Int32) * u0).toInt ≤ i0.toInt
      · rw [if_pos w3]
        by_cases z : i0.toInt < 2 * u0.toInt
        · omega
        · exact eq_of_toInt (by omega)
      · rw [if_neg w3]; exact eq_of_toInt (by omega)
