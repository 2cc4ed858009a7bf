/-! apart: both sides tell pairs of signs alike -/
def RA (l46 : Nat → Int64) (b58 : Nat → Int32) : Prop := ∀ a b : Nat, a < 40 → b < 40 → (b58 (40 * a + b)).toInt = if bitL (l46 a) b then 1 else 0
theorem F_arePart {a0 a1 : Int32} {l46 : Nat → Int64} (h0 : 0 ≤ a1.toInt) (h1 : a1.toInt < 64) : (F_x0_arePart a0 a1 l46).toInt = if bitL (l46 a0.toInt.toNat) a1.toInt.toNat then 1 else 0 := by
  unfold F_x0_arePart
  show (if (lg_cmp (l46 a0.toInt.toNat &&& ((1 : Int64) <<< (a1.toInt64 &&& 63))) 0).toInt = 0 then f_x0_arePart_b_6 else f_x0_arePart_b_8).toInt = _
  by_cases h : bitL (l46 a0.toInt.toNat) a1.toInt.toNat = true
  · rw [if_neg (fun q => by have := (andL_pow h0 h1).mp ((lg0 _).mp q); rw [h] at this; cases this), if_pos h]; rfl
  · rw [if_pos ((lg0 _).mpr ((andL_pow h0 h1).mpr (by simpa using h))), if_neg h]; rfl
theorem F_isSign1 {a : Int32} (h : 0 ≤ a.toInt ∧ a.toInt < 40) : F_x11_isSign a = 1 := by
  unfold F_x11_isSign f_x11_isSign_b_4
  rw [if_neg (by omega), if_neg (by omega)]; rfl
theorem F_isSign0 {a : Int32} (h : ¬ (0 ≤ a.toInt ∧ a.toInt < 40)) : F_x11_isSign a = 0 := by
  unfold F_x11_isSign f_x11_isSign_b_4
  by_cases q : a.toInt < 0
  · rw [if_pos q]; rfl
  · rw [if_neg q, if_pos (by omega)]; rfl
theorem F_lies1 {a b c : Int32} (h : b.toInt ≤ a.toInt ∧ a.toInt ≤ c.toInt) : F_m12_lies a b c = 1 := by
  unfold F_m12_lies f_m12_lies_b_4
  rw [if_neg (by omega), if_neg (by omega)]; rfl
theorem F_lies0 {a b c : Int32} (h : ¬ (b.toInt ≤ a.toInt ∧ a.toInt ≤ c.toInt)) : F_m12_lies a b c = 0 := by
  unfold F_m12_lies f_m12_lies_b_4
  by_cases q : a.toInt < b.toInt
  · rw [if_pos q]; rfl
  · rw [if_neg q, if_pos (by omega)]; rfl
def PA (a0 a1 : Int32) : Prop := (0 ≤ a0.toInt ∧ a0.toInt < 40) ∧ (0 ≤ a1.toInt ∧ a1.toInt < 40) ∧ a0.toInt ≠ a1.toInt
theorem X_apart_no {a0 a1 : Int32} {l46 : Nat → Int64} (h : ¬ PA a0 a1) : F_x11_apart a0 a1 l46 = (0, l46) := by
  unfold F_x11_apart
  show (if (F_x11_isSign a0).toInt = 0 then f_x11_apart_b_6 l46 else f_x11_apart_b_8 a0 a1 l46) = _
  by_cases h0 : 0 ≤ a0.toInt ∧ a0.toInt < 40
  · rw [F_isSign1 h0, if_neg (by decide)]
    unfold f_x11_apart_b_8
    show (if (F_x11_isSign a1).toInt = 0 then f_x11_apart_b_14 l46 else f_x11_apart_b_16 a0 a1 l46) = _
    by_cases h1 : 0 ≤ a1.toInt ∧ a1.toInt < 40
    · rw [F_isSign1 h1, if_neg (by decide)]
      unfold f_x11_apart_b_16
      by_cases h2 : a0.toInt = a1.toInt
      · rw [if_pos h2]; rfl
      · exact absurd ⟨h0, h1, h2⟩ h
    · rw [F_isSign0 h1, if_pos (by decide)]; rfl
  · rw [F_isSign0 h0, if_pos (by decide)]; rfl
def nL (a0 a1 : Int32) (l46 : Nat → Int64) : Nat → Int64 :=
  vp_updL (vp_updL l46 a0.toInt.toNat (l46 a0.toInt.toNat ||| ((1 : Int64) <<< (a1.toInt64 &&& 63)))) a1.toInt.toNat ((vp_updL l46 a0.toInt.toNat (l46 a0.toInt.toNat ||| ((1 : Int64) <<< (a1.toInt64 &&& 63)))) a1.toInt.toNat ||| ((1 : Int64) <<< (a0.toInt64 &&& 63)))
theorem X_apart_yes {a0 a1 : Int32} {l46 : Nat → Int64} (h : PA a0 a1) : F_x11_apart a0 a1 l46 = if bitL (l46 a0.toInt.toNat) a1.toInt.toNat then (0, l46) else (1, nL a0 a1 l46) := by
  obtain ⟨h0, h1, h2⟩ := h
  unfold F_x11_apart
  show (if (F_x11_isSign a0).toInt = 0 then f_x11_apart_b_6 l46 else f_x11_apart_b_8 a0 a1 l46) = _
  rw [F_isSign1 h0, if_neg (by decide)]
  unfold f_x11_apart_b_8
  show (if (F_x11_isSign a1).toInt = 0 then f_x11_apart_b_14 l46 else f_x11_apart_b_16 a0 a1 l46) = _
  rw [F_isSign1 h1, if_neg (by decide)]
  unfold f_x11_apart_b_16
  rw [if_neg h2]
  have hp := F_arePart (a0 := a0) (l46 := l46) h1.1 (show a1.toInt < 64 by omega)
  unfold f_x11_apart_b_20
  show (if (F_x0_part a0 a1 l46).1.toInt = 0 then f_x11_apart_b_29 (F_x0_part a0 a1 l46).2 else f_x11_apart_b_31 (F_x0_part a0 a1 l46).2) = _
  have e : F_x0_part a0 a1 l46 = if (F_x0_arePart a0 a1 l46).toInt = 0 then f_x0_part_b_7 a0 a1 l46 else f_x0_part_b_17 l46 := rfl
  by_cases hb : bitL (l46 a0.toInt.toNat) a1.toInt.toNat = true
  · rw [if_pos hb] at hp
    have e2 : F_x0_part a0 a1 l46 = f_x0_part_b_17 l46 := by rw [e]; exact if_neg (by omega)
    rw [e2, if_pos hb]; rfl
  · rw [if_neg hb] at hp
    have e2 : F_x0_part a0 a1 l46 = f_x0_part_b_7 a0 a1 l46 := by rw [e]; exact if_pos hp
    rw [e2, if_neg hb]; rfl
theorem M_apart_no {a0 a1 : Int32} {b58 : Nat → Int32} (h : ¬ PA a0 a1) : F_m12_apart a0 a1 b58 = (0, b58) := by
  unfold F_m12_apart
  show (if (F_m12_lies a0 0 39).toInt = 0 then f_m12_apart_b_6 b58 else f_m12_apart_b_8 a0 a1 b58) = _
  have c0 : (0 : Int32).toInt = 0 := by decide
  have c1 : (39 : Int32).toInt = 39 := by decide
  by_cases h0 : 0 ≤ a0.toInt ∧ a0.toInt < 40
  · rw [F_lies1 (by omega), if_neg (by decide)]
    unfold f_m12_apart_b_8
    show (if (F_m12_lies a1 0 39).toInt = 0 then f_m12_apart_b_14 b58 else f_m12_apart_b_16 a0 a1 b58) = _
    by_cases h1 : 0 ≤ a1.toInt ∧ a1.toInt < 40
    · rw [F_lies1 (by omega), if_neg (by decide)]
      unfold f_m12_apart_b_16
      by_cases h2 : a0.toInt = a1.toInt
      · rw [if_pos h2]; rfl
      · exact absurd ⟨h0, h1, h2⟩ h
    · rw [F_lies0 (by omega), if_pos (by decide)]; rfl
  · rw [F_lies0 (by omega), if_pos (by decide)]; rfl
theorem idx40 {x y : Int32} (hx : 0 ≤ x.toInt ∧ x.toInt < 40) (hy : 0 ≤ y.toInt ∧ y.toInt < 40) : ((40 : Int32) * x + y).toNatClampNeg = 40 * x.toInt.toNat + y.toInt.toNat := by
  have c : (40 : Int32).toInt = 40 := by decide
  have h1 : ((40 : Int32) * x).toInt = 40 * x.toInt := toInt_mul c rfl rfl (by omega) (by omega)
  have h2 : ((40 : Int32) * x + y).toInt = 40 * x.toInt + y.toInt := toInt_add h1 rfl (by omega) (by omega)
  show ((40 : Int32) * x + y).toInt.toNat = _
  omega
theorem M_apart_yes {a0 a1 : Int32} {b58 : Nat → Int32} (h : PA a0 a1) : F_m12_apart a0 a1 b58 = if (b58 (40 * a0.toInt.toNat + a1.toInt.toNat)).toInt = 0 then (1, upd (upd b58 (40 * a0.toInt.toNat + a1.toInt.toNat) 1) (40 * a1.toInt.toNat + a0.toInt.toNat) 1) else (0, b58) := by
  obtain ⟨h0, h1, h2⟩ := h
  have c0 : (0 : Int32).toInt = 0 := by decide
  have c1 : (39 : Int32).toInt = 39 := by decide
  unfold F_m12_apart
  show (if (F_m12_lies a0 0 39).toInt = 0 then f_m12_apart_b_6 b58 else f_m12_apart_b_8 a0 a1 b58) = _
  rw [F_lies1 (by omega), if_neg (by decide)]
  unfold f_m12_apart_b_8
  show (if (F_m12_lies a1 0 39).toInt = 0 then f_m12_apart_b_14 b58 else f_m12_apart_b_16 a0 a1 b58) = _
  rw [F_lies1 (by omega), if_neg (by decide)]
  unfold f_m12_apart_b_16
  rw [if_neg h2]
  unfold f_m12_apart_b_20
  show (if (b58 ((40 : Int32) * a0 + a1).toNatClampNeg).toInt = 0 then f_m12_apart_b_25 a0 a1 b58 else f_m12_apart_b_33 b58) = _
  rw [idx40 h0 h1]
  by_cases hb : (b58 (40 * a0.toInt.toNat + a1.toInt.toNat)).toInt = 0
  · rw [if_pos hb, if_pos hb]
    unfold f_m12_apart_b_25
    show ((1 : Int32), upd (upd b58 ((40 : Int32) * a0 + a1).toNatClampNeg (vp_nar .boolean (1 : Int32))) ((40 : Int32) * a1 + a0).toNatClampNeg (vp_nar .boolean (1 : Int32))) = _
    rw [idx40 h0 h1, idx40 h1 h0]; rfl
  · rw [if_neg hb, if_neg hb]; rfl
theorem nL_bit {l46 : Nat → Int64} {A B : Nat} {SA SB : Int64} (hA : ∀ k, bitL SA k = decide (A = k)) (hB : ∀ k, bitL SB k = decide (B = k)) (hne : A ≠ B) (c d : Nat) : bitL (vp_updL (vp_updL l46 A (l46 A ||| SB)) B ((vp_updL l46 A (l46 A ||| SB)) B ||| SA) c) d = (bitL (l46 c) d || (decide (c = A) && decide (B = d)) || (decide (c = B) && decide (A = d))) := by
  unfold vp_updL
  by_cases q1 : c = B
  · subst q1
    rw [if_pos rfl, if_neg (Ne.symm hne), bitL_or, hA, decide_eq_false (show ¬ c = A from Ne.symm hne), decide_eq_true (show c = c from rfl), Bool.false_and, Bool.or_false, Bool.true_and]
  · rw [if_neg q1]
    by_cases q3 : c = A
    · subst q3
      rw [if_pos rfl, bitL_or, hB, decide_eq_true (show c = c from rfl), decide_eq_false q1, Bool.false_and, Bool.or_false, Bool.true_and]
    · rw [if_neg q3, decide_eq_false q3, decide_eq_false q1, Bool.false_and, Bool.false_and, Bool.or_false, Bool.or_false]
theorem RA_step {l46 nl : Nat → Int64} {b58 nb : Nat → Int32} {a0 a1 v1 v2 : Int32} (h : RA l46 b58) (e1 : v1 = (F_x11_apart a0 a1 l46).1) (e2 : nl = (F_x11_apart a0 a1 l46).2) (e3 : v2 = (F_m12_apart a0 a1 b58).1) (e4 : nb = (F_m12_apart a0 a1 b58).2) : v1.toInt = v2.toInt ∧ RA nl nb := by
  by_cases hp : PA a0 a1
  · rw [X_apart_yes hp] at e1 e2
    rw [M_apart_yes hp] at e3 e4
    obtain ⟨h0, h1, h2⟩ := hp
    have hh := h a0.toInt.toNat a1.toInt.toNat (by omega) (by omega)
    by_cases hb : bitL (l46 a0.toInt.toNat) a1.toInt.toNat = true
    · rw [if_pos hb] at hh e1 e2
      rw [if_neg (by omega)] at e3 e4
      subst e1; subst e2; subst e3; subst e4
      exact ⟨rfl, h⟩
    · rw [if_neg hb] at hh e1 e2
      rw [if_pos hh] at e3 e4
      subst e1; subst e2; subst e3; subst e4
      refine ⟨rfl, ?_⟩
      intro c d hc hd
      have hcd := h c d hc hd
      have k1 : bitL (nL a0 a1 l46 c) d = (bitL (l46 c) d || (decide (c = a0.toInt.toNat) && decide (a1.toInt.toNat = d)) || (decide (c = a1.toInt.toNat) && decide (a0.toInt.toNat = d))) :=
        nL_bit (fun k => bitL_sh h0.1 (by omega) k) (fun k => bitL_sh h1.1 (by omega) k) (by omega) c d
      rw [k1]
      have o : (1 : Int32).toInt = 1 := by decide
      generalize hA : a0.toInt.toNat = A at *
      generalize hB : a1.toInt.toNat = B at *
      show (upd (upd b58 (40 * A + B) 1) (40 * B + A) 1 (40 * c + d)).toInt = _
      by_cases q1 : 40 * c + d = 40 * B + A
      · have p1 : c = B := by omega
        have p2 : A = d := by omega
        have e : upd (upd b58 (40 * A + B) 1) (40 * B + A) 1 (40 * c + d) = 1 := by unfold upd; rw [if_pos q1]
        rw [e, decide_eq_true p1, decide_eq_true p2, Bool.and_self, Bool.or_true, if_pos rfl]; exact o
      · by_cases q2 : 40 * c + d = 40 * A + B
        · have p1 : c = A := by omega
          have p2 : B = d := by omega
          have e : upd (upd b58 (40 * A + B) 1) (40 * B + A) 1 (40 * c + d) = 1 := by unfold upd; rw [if_neg q1, if_pos q2]
          rw [e, decide_eq_true p1, decide_eq_true p2, Bool.and_self, Bool.or_true, Bool.true_or, if_pos rfl]; exact o
        · have e : upd (upd b58 (40 * A + B) 1) (40 * B + A) 1 (40 * c + d) = b58 (40 * c + d) := by unfold upd; rw [if_neg q1, if_neg q2]
          have z1 : (decide (c = A) && decide (B = d)) = false := by
            rw [← Bool.decide_and]; exact decide_eq_false (by omega)
          have z2 : (decide (c = B) && decide (A = d)) = false := by
            rw [← Bool.decide_and]; exact decide_eq_false (by omega)
          rw [e, z1, z2, Bool.or_false, Bool.or_false]; exact hcd
  · rw [X_apart_no hp] at e1 e2
    rw [M_apart_no hp] at e3 e4
    subst e1; subst e2; subst e3; subst e4
    exact ⟨rfl, h⟩
