/-! the tape, on both sides -/
theorem and255 (y : Int32) : (y &&& 255).toInt = y.toInt % 256 := by
  have h : (y &&& 255).toBitVec.toNat = y.toBitVec.toNat % 256 := by
    rw [Int32.toBitVec_and, BitVec.toNat_and]
    exact Nat.and_two_pow_sub_one_eq_mod _ 8
  have e1 : (y &&& 255).toInt = (y &&& 255).toBitVec.toInt := rfl
  have e2 : y.toInt = y.toBitVec.toInt := rfl
  rw [e1, e2, BitVec.toInt_eq_toNat_cond, BitVec.toInt_eq_toNat_cond, h]
  have := y.toBitVec.isLt
  split <;> split <;> omega
theorem sx8 (y : Int32) : (vp_nar .byte y.toInt8.toInt32).toInt = (if y.toInt % 256 < 128 then y.toInt % 256 else y.toInt % 256 - 256) := by
  have e : ∀ w : Int32, w.toInt8.toInt32.toInt = (if w.toInt % 256 < 128 then w.toInt % 256 else w.toInt % 256 - 256) := by
    intro w
    rw [Int8.toInt_toInt32, Int32.toInt_toInt8, Int.bmod_eq_emod]
    split <;> split <;> omega
  rw [vp_nar_byte, e, e]
  split <;> split <;> omega
def TPR (a1 b1 : Nat → Int32) : Prop := ∀ k, (0 ≤ (a1 k).toInt ∧ (a1 k).toInt ≤ 255) ∧ (b1 k).toInt = (if (a1 k).toInt < 128 then (a1 k).toInt else (a1 k).toInt - 256)
theorem TPR_and {a1 b1 : Nat → Int32} (h : TPR a1 b1) (k : Nat) : b1 k &&& 255 = a1 k := by
  obtain ⟨h1, h2⟩ := h k
  refine eq_of_toInt ?_
  rw [and255]
  split at h2 <;> omega
theorem TPR_up {a1 b1 : Nat → Int32} {i : Nat} {x y : Int32} (h : TPR a1 b1) (hx : 0 ≤ x.toInt ∧ x.toInt ≤ 255) (hy : y.toInt = (if x.toInt < 128 then x.toInt else x.toInt - 256)) : TPR (upd a1 i x) (upd b1 i y) := by
  intro k
  unfold upd
  by_cases w : k = i
  · rw [if_pos w, if_pos w]; exact ⟨hx, hy⟩
  · rw [if_neg w, if_neg w]; exact h k
theorem shr_of (u : Int32) : ∀ x : Int32, (x = 0 ∨ x = 8 ∨ x = 16 ∨ x = 24) → ((u.toUInt32 >>> (x.toUInt32 &&& Int32.toUInt32 31)).toInt32 &&& (255 : Int32)).toInt = (u >>> (x &&& 31)).toInt % 256 := by
  intro x hx
  have hlt := u.toBitVec.isLt
  have e2 : u.toInt = if 2 * u.toBitVec.toNat < 4294967296 then (u.toBitVec.toNat : Int) else (u.toBitVec.toNat : Int) - 4294967296 := by
    have := BitVec.toInt_eq_toNat_cond u.toBitVec
    exact this
  have L : ∀ s : Nat, s ≤ 24 → ((u.toUInt32 >>> (UInt32.ofNat s)).toInt32).toInt = ((((u.toBitVec.toNat >>> (s % 32)) : Nat) : Int)) ∨ True := fun _ _ => Or.inr trivial
  clear L
  rw [and255]
  rcases hx with rfl | rfl | rfl | rfl
  · have a1 : (u.toUInt32 >>> ((0 : Int32).toUInt32 &&& Int32.toUInt32 31)).toInt32.toBitVec = u.toBitVec >>> (0 : Nat) := rfl
    have a2 : (u >>> ((0 : Int32) &&& 31)).toInt = u.toInt >>> (0 : Nat) := by
      have : (u >>> ((0 : Int32) &&& 31)).toBitVec = u.toBitVec.sshiftRight 0 := rfl
      exact (congrArg BitVec.toInt this).trans BitVec.toInt_sshiftRight
    have a3 := congrArg BitVec.toInt a1
    have a4 : (u.toUInt32 >>> ((0 : Int32).toUInt32 &&& Int32.toUInt32 31)).toInt32.toInt = (u.toBitVec >>> (0 : Nat)).toInt := a3
    rw [a4, a2, BitVec.toInt_eq_toNat_cond, BitVec.toNat_ushiftRight, Nat.shiftRight_eq_div_pow, Int.shiftRight_eq_div_pow]
    split at e2 <;> split <;> omega
  · have a1 : (u.toUInt32 >>> ((8 : Int32).toUInt32 &&& Int32.toUInt32 31)).toInt32.toBitVec = u.toBitVec >>> (8 : Nat) := rfl
    have a2 : (u >>> ((8 : Int32) &&& 31)).toInt = u.toInt >>> (8 : Nat) := by
      have : (u >>> ((8 : Int32) &&& 31)).toBitVec = u.toBitVec.sshiftRight 8 := rfl
      exact (congrArg BitVec.toInt this).trans BitVec.toInt_sshiftRight
    have a4 : (u.toUInt32 >>> ((8 : Int32).toUInt32 &&& Int32.toUInt32 31)).toInt32.toInt = (u.toBitVec >>> (8 : Nat)).toInt := congrArg BitVec.toInt a1
    rw [a4, a2, BitVec.toInt_eq_toNat_cond, BitVec.toNat_ushiftRight, Nat.shiftRight_eq_div_pow, Int.shiftRight_eq_div_pow]
    split at e2 <;> split <;> omega
  · have a1 : (u.toUInt32 >>> ((16 : Int32).toUInt32 &&& Int32.toUInt32 31)).toInt32.toBitVec = u.toBitVec >>> (16 : Nat) := rfl
    have a2 : (u >>> ((16 : Int32) &&& 31)).toInt = u.toInt >>> (16 : Nat) := by
      have : (u >>> ((16 : Int32) &&& 31)).toBitVec = u.toBitVec.sshiftRight 16 := rfl
      exact (congrArg BitVec.toInt this).trans BitVec.toInt_sshiftRight
    have a4 : (u.toUInt32 >>> ((16 : Int32).toUInt32 &&& Int32.toUInt32 31)).toInt32.toInt = (u.toBitVec >>> (16 : Nat)).toInt := congrArg BitVec.toInt a1
    rw [a4, a2, BitVec.toInt_eq_toNat_cond, BitVec.toNat_ushiftRight, Nat.shiftRight_eq_div_pow, Int.shiftRight_eq_div_pow]
    split at e2 <;> split <;> omega
  · have a1 : (u.toUInt32 >>> ((24 : Int32).toUInt32 &&& Int32.toUInt32 31)).toInt32.toBitVec = u.toBitVec >>> (24 : Nat) := rfl
    have a2 : (u >>> ((24 : Int32) &&& 31)).toInt = u.toInt >>> (24 : Nat) := by
      have : (u >>> ((24 : Int32) &&& 31)).toBitVec = u.toBitVec.sshiftRight 24 := rfl
      exact (congrArg BitVec.toInt this).trans BitVec.toInt_sshiftRight
    have a4 : (u.toUInt32 >>> ((24 : Int32).toUInt32 &&& Int32.toUInt32 31)).toInt32.toInt = (u.toBitVec >>> (24 : Nat)).toInt := congrArg BitVec.toInt a1
    rw [a4, a2, BitVec.toInt_eq_toNat_cond, BitVec.toNat_ushiftRight, Nat.shiftRight_eq_div_pow, Int.shiftRight_eq_div_pow]
    split at e2 <;> split <;> omega
theorem TPR_sh {a1 b1 : Nat → Int32} {i : Nat} {p y : Int32} (h : TPR a1 b1) (hs : p.toInt = y.toInt % 256) (hb : (vp_nar .byte y.toInt8.toInt32).toInt = (if y.toInt % 256 < 128 then y.toInt % 256 else y.toInt % 256 - 256)) : TPR (upd a1 i p) (upd b1 i (vp_nar .byte y.toInt8.toInt32)) := by
  refine TPR_up h (by omega) ?_
  rw [hb, hs]
theorem four_loop {u : Int32} : ∀ (m f g : Nat) (x i : Int32) (a1 b1 : Nat → Int32), m ≤ 4 → m < f → m < g → x.toInt = 8 * (m : Int) - 8 → 0 ≤ i.toInt → i.toInt + m ≤ 200 → TPR a1 b1 →
    (f_x11_putFour_j1 u f x i a1).1 = (f_m12_push_j1 u g x i b1).1 ∧ (f_x11_putFour_j1 u f x i a1).1.toInt = i.toInt + m ∧ TPR (f_x11_putFour_j1 u f x i a1).2 (f_m12_push_j1 u g x i b1).2 := by
  intro m
  induction m with
  | zero =>
    intro f g x i a1 b1 _ hf hg hx _ _ h
    obtain ⟨f, rfl⟩ : ∃ w, f = w + 1 := ⟨f - 1, by omega⟩
    obtain ⟨g, rfl⟩ : ∃ w, g = w + 1 := ⟨g - 1, by omega⟩
    rw [S_x11_putFour_j1, S_m12_push_j1, if_pos (by omega), if_pos (by omega)]
    exact ⟨rfl, by show i.toInt = i.toInt + ((0 : Nat) : Int); omega, h⟩
  | succ m ih =>
    intro f g x i a1 b1 hm hf hg hx hi0 hi h
    obtain ⟨f, rfl⟩ : ∃ w, f = w + 1 := ⟨f - 1, by omega⟩
    obtain ⟨g, rfl⟩ : ∃ w, g = w + 1 := ⟨g - 1, by omega⟩
    have c8 : (8 : Int32).toInt = 8 := by decide
    have c16 : (16 : Int32).toInt = 16 := by decide
    have c24 : (24 : Int32).toInt = 24 := by decide
    have c0' := c0
    have cm8 : (Int32.ofInt (-8)).toInt = -8 := by decide
    have hx4 : x = 0 ∨ x = 8 ∨ x = 16 ∨ x = 24 := by
      rcases (show m = 0 ∨ m = 1 ∨ m = 2 ∨ m = 3 by omega) with rfl | rfl | rfl | rfl
      · exact Or.inl (eq_of_toInt (by omega))
      · exact Or.inr (Or.inl (eq_of_toInt (by omega)))
      · exact Or.inr (Or.inr (Or.inl (eq_of_toInt (by omega))))
      · exact Or.inr (Or.inr (Or.inr (eq_of_toInt (by omega))))
    have hx1 := toInt_add hx cm8 (by omega) (by omega)
    have hx2 : (x + Int32.ofInt (-8)).toInt = 8 * (m : Int) - 8 := hx1.trans (by omega)
    clear hx1
    have hi1 := toInt_add (x := i) rfl c1 (by omega) (by omega)
    have hi2 : 0 ≤ (i + 1).toInt ∧ (i + 1).toInt + m ≤ 200 ∧ (i + 1).toInt + m = i.toInt + ((m + 1 : Nat) : Int) := by omega
    have hU : TPR (upd a1 i.toNatClampNeg ((u.toUInt32 >>> (x.toUInt32 &&& Int32.toUInt32 31)).toInt32 &&& 255)) (upd b1 i.toNatClampNeg (vp_nar .byte (u >>> (x &&& 31)).toInt8.toInt32)) := TPR_sh h (shr_of u x hx4) (sx8 (u >>> (x &&& 31)))
    rw [S_x11_putFour_j1, S_m12_push_j1, if_neg (by omega), if_neg (by omega), if_neg (by omega)]
    have R := ih f g (x + Int32.ofInt (-8)) (i + 1) (upd a1 i.toNatClampNeg ((u.toUInt32 >>> (x.toUInt32 &&& Int32.toUInt32 31)).toInt32 &&& 255)) (upd b1 i.toNatClampNeg (vp_nar .byte (u >>> (x &&& 31)).toInt8.toInt32)) (by omega) (by omega) (by omega) hx2 hi2.1 hi2.2.1 hU
    obtain ⟨R1, R2, R3⟩ := R
    exact ⟨R1, R2.trans hi2.2.2, R3⟩
theorem four {u i : Int32} {a1 b1 : Nat → Int32} (h0 : 0 ≤ i.toInt) (hi : i.toInt ≤ 196) (h : TPR a1 b1) :
    (F_x11_putFour u i a1).1 = (F_m12_push u i b1).1 ∧ (F_x11_putFour u i a1).1.toInt = i.toInt + 4 ∧ TPR (F_x11_putFour u i a1).2 (F_m12_push u i b1).2 :=
  four_loop (u := u) 4 33 33 24 i a1 b1 (by omega) (by omega) (by omega) (by decide) h0 (by omega) h
theorem R_feed {u0 u1 u2 u3 u4 i0 : Int32} {a1 b1 : Nat → Int32} (h0 : 0 ≤ i0.toInt) (hi : i0.toInt ≤ 200) (h : TPR a1 b1) :
    (F_x11_feed u0 u1 u2 u3 u4 i0 a1).1 = (F_m12_feed u0 u1 u2 u3 u4 i0 b1).1 ∧ (F_x11_feed u0 u1 u2 u3 u4 i0 a1).2.1 = (F_m12_feed u0 u1 u2 u3 u4 i0 b1).2.1 ∧ TPR (F_x11_feed u0 u1 u2 u3 u4 i0 a1).2.2 (F_m12_feed u0 u1 u2 u3 u4 i0 b1).2.2 ∧ 0 ≤ (F_x11_feed u0 u1 u2 u3 u4 i0 a1).2.1.toInt ∧ (F_x11_feed u0 u1 u2 u3 u4 i0 a1).2.1.toInt ≤ 200 := by
  have c20 : (20 : Int32).toInt = 20 := by decide
  have hz := toInt_add (x := i0) rfl c20 (by omega) (by omega)
  unfold F_x11_feed F_m12_feed
  dsimp only
  by_cases w : (i0 + 20).toInt ≤ 200
  · rw [if_pos w, if_pos w]
    unfold f_x11_feed_b_3 f_m12_feed_b_3
    dsimp only
    have A := four (u := u0) h0 (by omega) h
    generalize F_x11_putFour u0 i0 a1 = x at A ⊢
    generalize F_m12_push u0 i0 b1 = y at A ⊢
    obtain ⟨A1, A2, A3⟩ := A
    rw [← A1]
    have B := four (u := u1) (i := x.1) (by omega) (by omega) A3
    generalize F_x11_putFour u1 x.1 x.2 = x2 at B ⊢
    generalize F_m12_push u1 x.1 y.2 = y2 at B ⊢
    obtain ⟨B1, B2, B3⟩ := B
    rw [← B1]
    have C := four (u := u2) (i := x2.1) (by omega) (by omega) B3
    generalize F_x11_putFour u2 x2.1 x2.2 = x3 at C ⊢
    generalize F_m12_push u2 x2.1 y2.2 = y3 at C ⊢
    obtain ⟨C1, C2, C3⟩ := C
    rw [← C1]
    have D := four (u := u3) (i := x3.1) (by omega) (by omega) C3
    generalize F_x11_putFour u3 x3.1 x3.2 = x4 at D ⊢
    generalize F_m12_push u3 x3.1 y3.2 = y4 at D ⊢
    obtain ⟨D1, D2, D3⟩ := D
    rw [← D1]
    have E := four (u := u4) (i := x4.1) (by omega) (by omega) D3
    generalize F_x11_putFour u4 x4.1 x4.2 = x5 at E ⊢
    generalize F_m12_push u4 x4.1 y4.2 = y5 at E ⊢
    obtain ⟨E1, E2, E3⟩ := E
    exact ⟨E1, E1, E3, by omega, by omega⟩
  · rw [if_neg w, if_neg w]
    exact ⟨rfl, rfl, h, h0, hi⟩
