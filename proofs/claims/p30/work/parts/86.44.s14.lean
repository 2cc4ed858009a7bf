/-! SCHOLAR and CHECK, on both sides -/
theorem E_x11_firstWrongByte {u0 : Int32} {i3 : Int32} {a1 : Nat → Int32} {a29 : Nat → Int32} : F_x11_firstWrongByte u0 i3 a1 a29 = f_x11_firstWrongByte_j1 u0 i3 a1 a29 61 (0 : Int32) (0 : Int32) := rfl
theorem E_x11_check {u0 : Int32} {i0 : Int32} {i3 : Int32} {a1 : Nat → Int32} {a29 : Nat → Int32} : F_x11_check u0 i0 i3 a1 a29 = if u0.toInt < 0 then ((-2 : Int32), i0) else (if u0.toInt > 60 then ((-2 : Int32), i0) else (if ((2 : Int32) * u0).toInt ≤ i0.toInt then ((F_x11_firstWrongByte ((2 : Int32) * u0) i3 a1 a29), (0 : Int32)) else ((-2 : Int32), i0))) := rfl
theorem S_x11_firstWrongByte_j1 {u0 : Int32} {i3 : Int32} {a1 : Nat → Int32} {a29 : Nat → Int32} {n_ : Nat} {x_2} {x_4} : f_x11_firstWrongByte_j1 u0 i3 a1 a29 (n_ + 1) x_2 x_4 = if x_4.toInt ≥ (F_x9_size i3).toInt then (if x_2.toInt ≥ u0.toInt then (-1 : Int32) else x_2) else (if (F_x8_fixedNumber x_4 a29).toInt ≠ (-1) then (if (x_2 + (1 : Int32)).toInt < u0.toInt then (if (a1 x_2.toNatClampNeg).toInt = x_4.toInt then (if (a1 (x_2 + (1 : Int32)).toNatClampNeg).toInt = (F_x8_fixedNumber x_4 a29).toInt then (f_x11_firstWrongByte_j1 u0 i3 a1 a29 n_) (x_2 + Int32.ofInt 2) (x_4 + Int32.ofInt 1) else (x_2 + (1 : Int32))) else x_2) else u0) else ((f_x11_firstWrongByte_j1 u0 i3 a1 a29 n_) x_2 (x_4 + Int32.ofInt 1))) := rfl
theorem E_m12_check {p0 : Int32} {i0 : Int32} {i2 : Int32} {i7 : Int32} {a1 : Nat → Int32} {a34 : Nat → Int32} {a35 : Nat → Int32} : F_m12_check p0 i0 i2 i7 a1 a34 a35 = if (F_m12_lies p0 (0 : Int32) (60 : Int32)).toInt = 0 then ((-2 : Int32), i0) else (if ((2 : Int32) * p0).toInt ≤ i0.toInt then f_m12_check_j12 p0 i2 i7 a1 a34 a35 61 (0 : Int32) else ((-2 : Int32), i0)) := rfl
theorem S_m12_check_j12 {p0 : Int32} {i2 : Int32} {i7 : Int32} {a1 : Nat → Int32} {a34 : Nat → Int32} {a35 : Nat → Int32} {n_ : Nat} {x_13} : f_m12_check_j12 p0 i2 i7 a1 a34 a35 (n_ + 1) x_13 = if x_13.toInt ≥ p0.toInt then (if (F_m12_fixedVerse p0 i2 i7 a34 a35).toInt ≠ (-1) then (((2 : Int32) * p0), (0 : Int32)) else ((-1 : Int32), (0 : Int32))) else (if (F_m12_fixedVerse x_13 i2 i7 a34 a35).toInt = (-1) then (((2 : Int32) * x_13), (0 : Int32)) else (if ((a1 ((2 : Int32) * x_13).toNatClampNeg) &&& (255 : Int32)).toInt = (F_m12_fixedVerse x_13 i2 i7 a34 a35).toInt then (if ((a1 (((2 : Int32) * x_13) + (1 : Int32)).toNatClampNeg) &&& (255 : Int32)).toInt = (F_m12_fixedOf (F_m12_fixedVerse x_13 i2 i7 a34 a35) i7 a34 a35).toInt then (f_m12_check_j12 p0 i2 i7 a1 a34 a35 n_) (x_13 + Int32.ofInt 1) else ((((2 : Int32) * x_13) + (1 : Int32)), (0 : Int32))) else (((2 : Int32) * x_13), (0 : Int32)))) := rfl
theorem S_m12_fixedVerse_j1 {p0 : Int32} {i2 : Int32} {i7 : Int32} {a34 : Nat → Int32} {a35 : Nat → Int32} {n_ : Nat} {x_2} {x_3} : f_m12_fixedVerse_j1 p0 i2 i7 a34 a35 (n_ + 1) x_2 x_3 = if x_3.toInt ≥ i2.toInt then (-1 : Int32) else (if (F_m12_fixedOf x_3 i7 a34 a35).toInt ≠ (-1) then (if x_2.toInt ≠ p0.toInt then (f_m12_fixedVerse_j1 p0 i2 i7 a34 a35 n_) (x_2 + Int32.ofInt 1) (x_3 + Int32.ofInt 1) else x_3) else ((f_m12_fixedVerse_j1 p0 i2 i7 a34 a35 n_) x_2 (x_3 + Int32.ofInt 1))) := rfl
theorem MEM_add {i4 j4 i6 i7 u0 x : Int32} {a15 b10 b11 : Nat → Int32} {U I : Nat} (h : MEM i4 i6 i7 a15 b10 b11) (h6 : i6.toInt ≤ 6) (hI : i7.toInt = (I : Int)) (h24 : I < 24) (hU : u0.toInt = (U : Int)) (hU6 : (U : Int) < i6.toInt) (hj : (i7 + 1).toInt = (I : Int) + 1) (h4 : (x.toInt = 0 ∧ j4 = i4) ∨ (x.toInt ≠ 0 ∧ j4 = i4 ||| ((1 : Int32) <<< (i7 &&& 31)))) :
    MEM j4 i6 (i7 + 1) (upd a15 U (a15 U ||| ((1 : Int32) <<< (i7 &&& 31)))) (upd b10 I u0) (upd b11 I x) := by
  obtain ⟨m1, m2, m3⟩ := h
  have sh : ∀ s, bitI ((1 : Int32) <<< (i7 &&& 31)) s = decide (I = s) := fun s => by
    rw [qI_sh (by omega) (by omega), show i7.toInt.toNat = I by omega]
  refine ⟨fun s => ?_, fun c s hc => ?_, fun s hs => ?_⟩
  · by_cases e : s = I
    · rw [e, upd_s]
      have z : bitI i4 I = false := by
        cases q : bitI i4 I with
        | false => rfl
        | true => exact absurd ((m1 I).mp q).2.1 (by omega)
      rcases h4 with ⟨g1, g2⟩ | ⟨g1, g2⟩
      · rw [g2, z]
        exact ⟨fun q => (by cases q), fun q => absurd g1 q.2.2⟩
      · rw [g2, qI_or, sh, decide_eq_true rfl, Bool.or_true]
        exact ⟨fun _ => ⟨h24, by omega, g1⟩, fun _ => rfl⟩
    · have z : bitI j4 s = bitI i4 s := by
        rcases h4 with ⟨g1, g2⟩ | ⟨g1, g2⟩
        · rw [g2]
        · rw [g2, qI_or, sh, decide_eq_false (fun q => e q.symm), Bool.or_false]
      rw [z, m1 s, upd_n e]
      exact ⟨fun q => ⟨q.1, by omega, q.2.2⟩, fun q => ⟨q.1, by omega, q.2.2⟩⟩
  · by_cases ec : c = U
    · rw [ec, upd_s, qI_or, Bool.or_eq_true, sh, decide_eq_true_eq, m2 U s (by omega)]
      by_cases e : s = I
      · rw [e, upd_s]
        exact ⟨fun _ => ⟨h24, by omega, hU⟩, fun _ => Or.inr rfl⟩
      · rw [upd_n e]
        exact ⟨fun q => q.elim (fun w => ⟨w.1, by omega, w.2.2⟩) (fun w => absurd w.symm e), fun q => Or.inl ⟨q.1, by omega, q.2.2⟩⟩
    · rw [upd_n ec, m2 c s hc]
      by_cases e : s = I
      · rw [e, upd_s]
        exact ⟨fun q => absurd q.2.1 (by omega), fun q => absurd q.2.2 (by omega)⟩
      · rw [upd_n e]
        exact ⟨fun q => ⟨q.1, by omega, q.2.2⟩, fun q => ⟨q.1, by omega, q.2.2⟩⟩
  · by_cases e : s = I
    · rw [e, upd_s]; exact ⟨by omega, by omega⟩
    · rw [upd_n e]; exact m3 s (by omega)
def RSC (i6 i7 : Int32) (b10 b11 : Nat → Int32) (x : Int32 × Int32 × Int32 × (Nat → Int32)) (m : Int32 × Int32 × (Nat → Int32) × (Nat → Int32)) : Prop :=
  x.1 = m.1 ∧ x.2.2.1 = m.2.1 ∧ (0 ≤ x.2.2.1.toInt ∧ x.2.2.1.toInt ≤ 24) ∧ MEM x.2.1 i6 x.2.2.1 x.2.2.2 m.2.2.1 m.2.2.2 ∧ i7.toInt ≤ x.2.2.1.toInt ∧ ∀ s : Nat, (s : Int) < i7.toInt → m.2.2.1 s = b10 s ∧ m.2.2.2 s = b11 s
theorem R_scholar {u0 u1 i4 i6 i7 : Int32} {a15 b10 b11 : Nat → Int32} (hu : u1 = 0 ∨ u1 = 1) (h6 : 0 ≤ i6.toInt ∧ i6.toInt ≤ 6) (h7 : 0 ≤ i7.toInt ∧ i7.toInt ≤ 24) (hM : MEM i4 i6 i7 a15 b10 b11) : RSC i6 i7 b10 b11 (F_x11_scholar u0 u1 i4 i6 i7 a15) (F_m12_scholar u0 u1 i6 i7 b10 b11) := by
  have e1 : (i6 - 1).toInt = i6.toInt - 1 := by have := toInt_sub (x := i6) rfl c1 (by omega) (by omega); omega
  have no : RSC i6 i7 b10 b11 ((-1 : Int32), i4, i7, a15) ((-1 : Int32), i7, b10, b11) := ⟨rfl, rfl, h7, hM, Int.le_refl _, fun _ _ => ⟨rfl, rfl⟩⟩
  have bz : (vp_nar .boolean (0 : Int32)).toInt = 0 := by decide
  have bo : (vp_nar .boolean (1 : Int32)).toInt ≠ 0 := by decide
  rw [E_x11_scholar, E_m12_scholar, E_x4_enterScholar]
  rcases mlie (u := u0) c0 e1 with ⟨g1, g⟩ | ⟨g1, g⟩
  · rcases xcom (u := u0) (i6 := i6) with ⟨_, k⟩ | ⟨k1, _⟩
    · rw [g, k, if_neg n10, if_pos y10, if_pos y10]
      by_cases w : i7.toInt = 24
      · rw [if_pos w, if_pos (show i7.toInt ≥ 24 by omega)]; exact no
      · rw [if_neg w, if_neg (show ¬ i7.toInt ≥ 24 by omega)]
        have ej := toInt_add (x := i7) rfl c1 (by omega) (by omega)
        obtain ⟨I, hI⟩ : ∃ I : Nat, i7.toInt = (I : Int) := ⟨i7.toInt.toNat, by omega⟩
        obtain ⟨U, hU⟩ : ∃ U : Nat, u0.toInt = (U : Int) := ⟨u0.toInt.toNat, by omega⟩
        have old : ∀ (y : Int32) (s : Nat), (s : Int) < i7.toInt → upd b10 I u0 s = b10 s ∧ upd b11 I y s = b11 s := fun y s hs => ⟨upd_n (by omega), upd_n (by omega)⟩
        rw [nc hI, nc hU]
        rcases hu with z | z
        · subst z
          rw [if_pos c0]
          refine ⟨rfl, rfl, ⟨by show 0 ≤ (i7 + 1).toInt; omega, by show (i7 + 1).toInt ≤ 24; omega⟩, ?_, by show i7.toInt ≤ (i7 + 1).toInt; omega, old _⟩
          exact MEM_add hM h6.2 hI (by omega) hU (by omega) (by omega) (Or.inl ⟨bz, rfl⟩)
        · subst z
          rw [if_neg n10]
          refine ⟨rfl, rfl, ⟨by show 0 ≤ (i7 + 1).toInt; omega, by show (i7 + 1).toInt ≤ 24; omega⟩, ?_, by show i7.toInt ≤ (i7 + 1).toInt; omega, old _⟩
          exact MEM_add hM h6.2 hI (by omega) hU (by omega) (by omega) (Or.inr ⟨bo, rfl⟩)
    · omega
  · rcases xcom (u := u0) (i6 := i6) with ⟨k1, _⟩ | ⟨_, k⟩
    · omega
    · rw [g, k, if_pos y00, if_neg n00]
      by_cases w : i7.toInt = 24
      · rw [if_pos w]; exact no
      · rw [if_neg w]; exact no
/-- the tape against what is FIXED -/
theorem ck_loop {u i3 i10 : Int32} {a1 b1 a29 b34 b35 : Nat → Int32} {N : Nat} (hu : u.toInt = (N : Int)) (h60 : N ≤ 60) (h3 : i3.toInt ≤ 60) (h10 : 0 ≤ i10.toInt ∧ i10.toInt ≤ 200) (hT : TPR a1 b1) (hX : FXD i10 a29 b34 b35) : ∀ (m fx fv fc X k : Nat) (x2 x4 x13 : Int32), x4.toInt = (X : Int) → i3.toInt = (X : Int) + m → x2.toInt = ((2 * k : Nat) : Int) → x13.toInt = (k : Int) → k ≤ N → m < fx → m < fv → N < k + fc →
    (∀ K : Int32, (k : Int) ≤ K.toInt → F_m12_fixedVerse K i3 i10 b34 b35 = f_m12_fixedVerse_j1 K i3 i10 b34 b35 fv x13 x4) →
    f_x11_firstWrongByte_j1 ((2 : Int32) * u) i3 a1 a29 fx x2 x4 = (f_m12_check_j12 u i3 i10 b1 b34 b35 fc x13).1 ∧ (f_m12_check_j12 u i3 i10 b1 b34 b35 fc x13).2 = (0 : Int32) := by
  have hN2 := (ix20 hu (by omega)).1
  intro m
  induction m with
  | zero =>
    intro fx fv fc X k x2 x4 x13 hx4 hm hx2 hx13 hk hfx hfv hfc hinv
    obtain ⟨fx, rfl⟩ : ∃ w, fx = w + 1 := ⟨fx - 1, by omega⟩
    obtain ⟨fv, rfl⟩ : ∃ w, fv = w + 1 := ⟨fv - 1, by omega⟩
    obtain ⟨fc, rfl⟩ : ∃ w, fc = w + 1 := ⟨fc - 1, by omega⟩
    have none : ∀ K : Int32, (k : Int) ≤ K.toInt → F_m12_fixedVerse K i3 i10 b34 b35 = (-1 : Int32) := fun K hK => by
      rw [hinv K hK, S_m12_fixedVerse_j1, if_pos (show x4.toInt ≥ i3.toInt by omega)]
    have e2 : (2 : Int32) * x13 = x2 := eq_of_toInt (by have := (ix20 hx13 (by omega)).1; omega)
    rw [S_x11_firstWrongByte_j1, show F_x9_size i3 = i3 from rfl, if_pos (show x4.toInt ≥ i3.toInt by omega), S_m12_check_j12]
    by_cases kn : k = N
    · rw [if_pos (show x2.toInt ≥ ((2 : Int32) * u).toInt by omega), if_pos (show x13.toInt ≥ u.toInt by omega), none u (by omega), if_neg (fun q => q sm1)]
      exact ⟨rfl, rfl⟩
    · rw [if_neg (show ¬ x2.toInt ≥ ((2 : Int32) * u).toInt by omega), if_neg (show ¬ x13.toInt ≥ u.toInt by omega), none x13 (by omega), if_pos sm1]
      exact ⟨e2.symm, rfl⟩
  | succ m ih =>
    intro fx fv fc X k x2 x4 x13 hx4 hm hx2 hx13 hk hfx hfv hfc hinv
    obtain ⟨fx, rfl⟩ : ∃ w, fx = w + 1 := ⟨fx - 1, by omega⟩
    obtain ⟨fv, rfl⟩ : ∃ w, fv = w + 1 := ⟨fv - 1, by omega⟩
    obtain ⟨fc, rfl⟩ : ∃ w, fc = w + 1 := ⟨fc - 1, by omega⟩
    have hz4 : (x4 + Int32.ofInt 1).toInt = ((X + 1 : Nat) : Int) := by
      have := toInt_add hx4 co1 (by omega) (by omega)
      omega
    have efn : F_x8_fixedNumber x4 a29 = a29 X := fn_of hx4 (by omega)
    have efo : F_m12_fixedOf x4 i10 b34 b35 = a29 X := fo_of hx4 (by omega) h10 hX
    have e2 : (2 : Int32) * x13 = x2 := eq_of_toInt (by have := (ix20 hx13 (by omega)).1; omega)
    rw [S_x11_firstWrongByte_j1, show F_x9_size i3 = i3 from rfl, if_neg (show ¬ x4.toInt ≥ i3.toInt by omega), efn]
    by_cases w : (a29 X).toInt = -1
    · rw [if_neg (fun q => q w)]
      refine ih fx fv (fc + 1) (X + 1) k x2 (x4 + Int32.ofInt 1) x13 hz4 (by omega) hx2 hx13 hk (by omega) (by omega) (by omega) (fun K hK => ?_)
      rw [hinv K hK, S_m12_fixedVerse_j1, if_neg (show ¬ x4.toInt ≥ i3.toInt by omega), efo, if_neg (fun q => q w)]
    · have step : ∀ K : Int32, (k : Int) ≤ K.toInt → F_m12_fixedVerse K i3 i10 b34 b35 = if x13.toInt ≠ K.toInt then f_m12_fixedVerse_j1 K i3 i10 b34 b35 fv (x13 + Int32.ofInt 1) (x4 + Int32.ofInt 1) else x4 := fun K hK => by
        rw [hinv K hK, S_m12_fixedVerse_j1, if_neg (show ¬ x4.toInt ≥ i3.toInt by omega), efo, if_pos w]
      have e1 : (x2 + (1 : Int32)).toInt = ((2 * k + 1 : Nat) : Int) := by
        have := toInt_add hx2 c1 (by omega) (by omega)
        omega
      rw [if_pos (show (a29 X).toInt ≠ -1 from w), S_m12_check_j12]
      by_cases kn : k = N
      · rw [if_neg (show ¬ (x2 + (1 : Int32)).toInt < ((2 : Int32) * u).toInt by omega), if_pos (show x13.toInt ≥ u.toInt by omega), step u (by omega), if_neg (show ¬ x13.toInt ≠ u.toInt by omega), if_pos (show x4.toInt ≠ -1 by omega)]
        exact ⟨rfl, rfl⟩
      · have k2 := (ix20 hx13 (by omega)).2
        have k3 := (ix2 hx13 c1 (by omega) (by omega) (i := 1)).2
        rw [if_pos (show (x2 + (1 : Int32)).toInt < ((2 : Int32) * u).toInt by omega), if_neg (show ¬ x13.toInt ≥ u.toInt by omega), step x13 (by omega), if_neg (show ¬ x13.toInt ≠ x13.toInt from fun q => q rfl), if_neg (show ¬ x4.toInt = -1 by omega), k2, k3, TPR_and hT, TPR_and hT, nc hx2, nc e1, efo]
        by_cases w1 : (a1 (2 * k)).toInt = x4.toInt
        · rw [if_pos w1, if_pos w1]
          by_cases w2 : (a1 (2 * k + 1)).toInt = (a29 X).toInt
          · rw [if_pos w2, if_pos w2]
            have h22 : (x2 + Int32.ofInt 2).toInt = ((2 * (k + 1) : Nat) : Int) := by
              have := toInt_add hx2 (show (Int32.ofInt 2).toInt = 2 by decide) (by omega) (by omega)
              omega
            have h13 : (x13 + Int32.ofInt 1).toInt = ((k + 1 : Nat) : Int) := by
              have := toInt_add hx13 co1 (by omega) (by omega)
              omega
            refine ih fx fv fc (X + 1) (k + 1) (x2 + Int32.ofInt 2) (x4 + Int32.ofInt 1) (x13 + Int32.ofInt 1) hz4 (by omega) h22 h13 (by omega) (by omega) (by omega) (by omega) (fun K hK => ?_)
            rw [step K (by omega), if_pos (show x13.toInt ≠ K.toInt by omega)]
          · rw [if_neg w2, if_neg w2, e2]; exact ⟨rfl, rfl⟩
        · rw [if_neg w1, if_neg w1, e2]; exact ⟨rfl, rfl⟩
theorem R_check {u0 i0 i3 i10 : Int32} {a1 b1 a29 b34 b35 : Nat → Int32} (h3 : 0 ≤ i3.toInt ∧ i3.toInt ≤ 60) (h10 : 0 ≤ i10.toInt ∧ i10.toInt ≤ 200) (hT : TPR a1 b1) (hX : FXD i10 a29 b34 b35) : F_x11_check u0 i0 i3 a1 a29 = F_m12_check u0 i0 i3 i10 b1 b34 b35 ∧ ((F_x11_check u0 i0 i3 a1 a29).2 = 0 ∨ (F_x11_check u0 i0 i3 a1 a29).2 = i0) := by
  have c60 : (60 : Int32).toInt = 60 := by decide
  rw [E_x11_check, E_m12_check]
  rcases mlie (u := u0) c0 c60 with ⟨g1, g⟩ | ⟨g1, g⟩
  · rw [g, if_neg n10, if_neg (show ¬ u0.toInt < 0 by omega), if_neg (show ¬ u0.toInt > 60 by omega)]
    by_cases w : ((2 : Int32) * u0).toInt ≤ i0.toInt
    · obtain ⟨N, hN⟩ : ∃ N : Nat, u0.toInt = (N : Int) := ⟨u0.toInt.toNat, by omega⟩
      obtain ⟨l1, l2⟩ := ck_loop (u := u0) (i3 := i3) hN (by omega) h3.2 h10 hT hX i3.toInt.toNat 61 61 61 0 0 (0 : Int32) (0 : Int32) (0 : Int32) c0 (by omega) c0 c0 (Nat.zero_le _) (by omega) (by omega) (by omega) (fun _ _ => rfl)
      rw [if_pos w, if_pos w, E_x11_firstWrongByte, l1]
      exact ⟨Prod.ext rfl l2.symm, Or.inl rfl⟩
    · rw [if_neg w, if_neg w]; exact ⟨rfl, Or.inr rfl⟩
  · rw [g, if_pos y00]
    by_cases w : u0.toInt < 0
    · rw [if_pos w]; exact ⟨rfl, Or.inr rfl⟩
    · rw [if_neg w, if_pos (show u0.toInt > 60 by omega)]; exact ⟨rfl, Or.inr rfl⟩
