/-! reads and missed: both sides tell what readers missed alike -/
def RM (a10 a11 b61 b62 : Nat → Int32) : Prop := ∀ t : Nat, t < 480 → a10 t = b61 t ∧ (∀ k, bitI (a11 t) k = (bitI (b61 t) k && !bitI (b62 t) k)) ∧ (∀ k, bitI (b62 t) k = true → bitI (b61 t) k = true) ∧ (∀ k, 10 ≤ k → bitI (b61 t) k = false)
theorem bitI_or (x z : Int32) (k : Nat) : bitI (x ||| z) k = (bitI x k || bitI z k) := BitVec.getLsbD_or
theorem bitI_and (x z : Int32) (k : Nat) : bitI (x &&& z) k = (bitI x k && bitI z k) := BitVec.getLsbD_and
theorem bitI_big (x : Int32) {k : Nat} (h : 32 ≤ k) : bitI x k = false := BitVec.getLsbD_of_ge _ _ h
theorem bitI_m1 : ∀ k : Fin 32, bitI (-1) k.1 = true := by decide
theorem bitI_sh {y : Int32} (h0 : 0 ≤ y.toInt) (h1 : y.toInt < 32) (k : Nat) : bitI ((1 : Int32) <<< (y &&& 31)) k = decide (y.toInt.toNat = k) := by
  unfold bitI
  rw [sh32_at h0 h1, BitVec.getLsbD_twoPow]
  simp only [show y.toInt.toNat < 32 by omega, decide_true, Bool.true_and]
theorem bitI_nsh {y : Int32} (h0 : 0 ≤ y.toInt) (h1 : y.toInt < 32) {k : Nat} (hk : k < 32) : bitI (((1 : Int32) <<< (y &&& 31)) ^^^ (-1)) k = !decide (y.toInt.toNat = k) := by
  have e : bitI (((1 : Int32) <<< (y &&& 31)) ^^^ (-1)) k = (bitI ((1 : Int32) <<< (y &&& 31)) k ^^ bitI (-1) k) := BitVec.getLsbD_xor
  rw [e, bitI_sh h0 h1, bitI_m1 ⟨k, hk⟩, Bool.xor_true]
theorem F_has1 {a i3 : Int32} (h : 0 ≤ a.toInt ∧ a.toInt < i3.toInt) : F_x9_has a i3 = 1 := by
  unfold F_x9_has f_x9_has_b_4
  rw [if_neg (by omega), if_neg (by omega)]; rfl
theorem F_has0 {a i3 : Int32} (h : ¬ (0 ≤ a.toInt ∧ a.toInt < i3.toInt)) : F_x9_has a i3 = 0 := by
  unfold F_x9_has f_x9_has_b_4
  by_cases q : a.toInt < 0
  · rw [if_pos q]; rfl
  · rw [if_neg q, if_pos (by omega)]; rfl
theorem F_lies1' {a b c : Int32} (h : b.toInt ≤ a.toInt ∧ a.toInt ≤ c.toInt) : F_m12_lies a b c = 1 := by
  unfold F_m12_lies f_m12_lies_b_4
  rw [if_neg (by omega), if_neg (by omega)]; rfl
theorem F_lies0' {a b c : Int32} (h : ¬ (b.toInt ≤ a.toInt ∧ a.toInt ≤ c.toInt)) : F_m12_lies a b c = 0 := by
  unfold F_m12_lies f_m12_lies_b_4
  by_cases q : a.toInt < b.toInt
  · rw [if_pos q]; rfl
  · rw [if_neg q, if_pos (by omega)]; rfl
theorem lim1 {i2 : Int32} (h : 0 ≤ i2.toInt) : (i2 - (1 : Int32)).toInt = i2.toInt - 1 := by
  have hb := (i32_all i2).2
  exact toInt_sub rfl (by decide) (by omega) (by omega)
theorem F_isVerse1 {a i2 : Int32} (hi : 0 ≤ i2.toInt) (h : 0 ≤ a.toInt ∧ a.toInt < i2.toInt) : F_m12_isVerse a i2 = 1 := by
  have c0 : (0 : Int32).toInt = 0 := by decide
  have e := lim1 hi
  exact F_lies1' (by omega)
theorem F_isVerse0 {a i2 : Int32} (hi : 0 ≤ i2.toInt) (h : ¬ (0 ≤ a.toInt ∧ a.toInt < i2.toInt)) : F_m12_isVerse a i2 = 0 := by
  have c0 : (0 : Int32).toInt = 0 := by decide
  have e := lim1 hi
  exact F_lies0' (by omega)
def PR (a0 a1 a2 i3 : Int32) : Prop := (0 ≤ a0.toInt ∧ a0.toInt ≤ 9) ∧ (0 ≤ a1.toInt ∧ a1.toInt < i3.toInt) ∧ (0 ≤ a2.toInt ∧ a2.toInt < 8)
def Sb (y : Int32) : Int32 := (1 : Int32) <<< (y &&& 31)
theorem idx8x {x y : Int32} (hx : 0 ≤ x.toInt ∧ x.toInt < 60) (hy : 0 ≤ y.toInt ∧ y.toInt < 8) : (x * (8 : Int32) + y).toNatClampNeg = 8 * x.toInt.toNat + y.toInt.toNat := by
  have c : (8 : Int32).toInt = 8 := by decide
  have h1 : (x * (8 : Int32)).toInt = x.toInt * 8 := toInt_mul rfl c rfl (by omega) (by omega)
  have h2 : (x * (8 : Int32) + y).toInt = x.toInt * 8 + y.toInt := toInt_add h1 rfl (by omega) (by omega)
  show (x * (8 : Int32) + y).toInt.toNat = _
  omega
theorem idx8m {x y : Int32} (hx : 0 ≤ x.toInt ∧ x.toInt < 60) (hy : 0 ≤ y.toInt ∧ y.toInt < 8) : ((8 : Int32) * x + y).toNatClampNeg = 8 * x.toInt.toNat + y.toInt.toNat := by
  have c : (8 : Int32).toInt = 8 := by decide
  have h1 : ((8 : Int32) * x).toInt = 8 * x.toInt := toInt_mul c rfl rfl (by omega) (by omega)
  have h2 : ((8 : Int32) * x + y).toInt = 8 * x.toInt + y.toInt := toInt_add h1 rfl (by omega) (by omega)
  show ((8 : Int32) * x + y).toInt.toNat = _
  omega
theorem X_reads_no {a0 a1 a2 a3 i3 : Int32} {a10 a11 : Nat → Int32} (h : ¬ PR a0 a1 a2 i3) : F_x11_reads a0 a1 a2 a3 i3 a10 a11 = (0, a10, a11) := by
  unfold F_x11_reads f_x11_reads_b_4
  by_cases h0 : 0 ≤ a0.toInt ∧ a0.toInt ≤ 9
  · rw [if_neg (by omega), if_neg (by omega)]
    unfold f_x11_reads_b_8
    show (if (F_x9_has a1 i3).toInt = 0 then f_x11_reads_b_15 a10 a11 else f_x11_reads_b_17 a0 a1 a2 a3 i3 a10 a11) = _
    by_cases h1 : 0 ≤ a1.toInt ∧ a1.toInt < i3.toInt
    · rw [F_has1 h1, if_neg (by decide)]
      unfold f_x11_reads_b_17 f_x11_reads_b_21
      by_cases h2 : a2.toInt < 0
      · rw [if_pos h2]; rfl
      · rw [if_neg h2]
        by_cases h3 : a2.toInt < 8
        · exact absurd ⟨h0, h1, by omega, h3⟩ h
        · rw [if_neg h3]; rfl
    · rw [F_has0 h1, if_pos (by decide)]; rfl
  · by_cases h1 : a0.toInt < 0
    · rw [if_pos h1]; rfl
    · rw [if_neg h1, if_pos (by omega)]; rfl
theorem X_reads_yes {a0 a1 a2 a3 i3 : Int32} {a10 a11 : Nat → Int32} (hi : i3.toInt ≤ 60) (h : PR a0 a1 a2 i3) : F_x11_reads a0 a1 a2 a3 i3 a10 a11 = (1, upd a10 (8 * a1.toInt.toNat + a2.toInt.toNat) (a10 (8 * a1.toInt.toNat + a2.toInt.toNat) ||| Sb a0), upd a11 (8 * a1.toInt.toNat + a2.toInt.toNat) (if a3.toInt = 0 then a11 (8 * a1.toInt.toNat + a2.toInt.toNat) ||| Sb a0 else a11 (8 * a1.toInt.toNat + a2.toInt.toNat) &&& (Sb a0 ^^^ (-1)))) := by
  obtain ⟨h0, h1, h2⟩ := h
  have ix := idx8x (x := a1) (y := a2) (by omega) h2
  have e : F_x9_recordReader a0 a1 a2 a3 i3 a10 a11 = (upd a10 (8 * a1.toInt.toNat + a2.toInt.toNat) (a10 (8 * a1.toInt.toNat + a2.toInt.toNat) ||| Sb a0), upd a11 (8 * a1.toInt.toNat + a2.toInt.toNat) (if a3.toInt = 0 then a11 (8 * a1.toInt.toNat + a2.toInt.toNat) ||| Sb a0 else a11 (8 * a1.toInt.toNat + a2.toInt.toNat) &&& (Sb a0 ^^^ (-1)))) := by
    unfold F_x9_recordReader
    show (if (F_x9_has a1 i3).toInt = 0 then f_x9_recordReader_b_7 a10 a11 else f_x9_recordReader_b_8 a0 a1 a2 a3 a10 a11) = _
    rw [F_has1 h1, if_neg (by decide)]
    unfold f_x9_recordReader_b_8 f_x9_recordReader_b_11
    rw [if_neg (by omega), if_pos (by omega)]
    by_cases h3 : a3.toInt = 0
    · rw [if_pos h3]
      show (if a3.toInt = 0 then (upd a10 (a1 * (8 : Int32) + a2).toNatClampNeg (a10 (a1 * (8 : Int32) + a2).toNatClampNeg ||| Sb a0), upd a11 (a1 * (8 : Int32) + a2).toNatClampNeg (a11 (a1 * (8 : Int32) + a2).toNatClampNeg ||| Sb a0)) else (upd a10 (a1 * (8 : Int32) + a2).toNatClampNeg (a10 (a1 * (8 : Int32) + a2).toNatClampNeg ||| Sb a0), upd a11 (a1 * (8 : Int32) + a2).toNatClampNeg (a11 (a1 * (8 : Int32) + a2).toNatClampNeg &&& (Sb a0 ^^^ (-1))))) = _
      rw [if_pos h3, ix]
    · rw [if_neg h3]
      show (if a3.toInt = 0 then (upd a10 (a1 * (8 : Int32) + a2).toNatClampNeg (a10 (a1 * (8 : Int32) + a2).toNatClampNeg ||| Sb a0), upd a11 (a1 * (8 : Int32) + a2).toNatClampNeg (a11 (a1 * (8 : Int32) + a2).toNatClampNeg ||| Sb a0)) else (upd a10 (a1 * (8 : Int32) + a2).toNatClampNeg (a10 (a1 * (8 : Int32) + a2).toNatClampNeg ||| Sb a0), upd a11 (a1 * (8 : Int32) + a2).toNatClampNeg (a11 (a1 * (8 : Int32) + a2).toNatClampNeg &&& (Sb a0 ^^^ (-1))))) = _
      rw [if_neg h3, ix]
  unfold F_x11_reads f_x11_reads_b_4
  rw [if_neg (by omega), if_neg (by omega)]
  unfold f_x11_reads_b_8
  show (if (F_x9_has a1 i3).toInt = 0 then f_x11_reads_b_15 a10 a11 else f_x11_reads_b_17 a0 a1 a2 a3 i3 a10 a11) = _
  rw [F_has1 h1, if_neg (by decide)]
  unfold f_x11_reads_b_17 f_x11_reads_b_21
  rw [if_neg (by omega), if_pos (by omega)]
  show ((1 : Int32), (F_x9_recordReader a0 a1 a2 a3 i3 a10 a11).1, (F_x9_recordReader a0 a1 a2 a3 i3 a10 a11).2) = _
  rw [e]
theorem M_reads_no {a0 a1 a2 a3 i3 : Int32} {a10 a11 : Nat → Int32} (hi : 0 ≤ i3.toInt) (h : ¬ PR a0 a1 a2 i3) : F_m12_reads a0 a1 a2 a3 i3 a10 a11 = (0, a10, a11) := by
  have c0 : (0 : Int32).toInt = 0 := by decide
  have c1 : (9 : Int32).toInt = 9 := by decide
  have c2 : (7 : Int32).toInt = 7 := by decide
  unfold F_m12_reads
  show (if (F_m12_lies a0 0 9).toInt = 0 then f_m12_reads_b_6 a10 a11 else f_m12_reads_b_8 a0 a1 a2 a3 i3 a10 a11) = _
  by_cases h0 : 0 ≤ a0.toInt ∧ a0.toInt ≤ 9
  · rw [F_lies1' (by omega), if_neg (by decide)]
    unfold f_m12_reads_b_8
    show (if (F_m12_isVerse a1 i3).toInt = 0 then f_m12_reads_b_15 a10 a11 else f_m12_reads_b_17 a0 a1 a2 a3 a10 a11) = _
    by_cases h1 : 0 ≤ a1.toInt ∧ a1.toInt < i3.toInt
    · rw [F_isVerse1 hi h1, if_neg (by decide)]
      unfold f_m12_reads_b_17
      show (if (F_m12_lies a2 0 7).toInt ≠ 0 then f_m12_reads_b_23 a0 a1 a2 a3 a10 a11 else f_m12_reads_b_50 a10 a11) = _
      rw [F_lies0' (by intro q; exact h ⟨h0, h1, by omega, by omega⟩), if_neg (by decide)]; rfl
    · rw [F_isVerse0 hi h1, if_pos (by decide)]; rfl
  · rw [F_lies0' (by omega), if_pos (by decide)]; rfl
theorem M_reads_yes {a0 a1 a2 a3 i3 : Int32} {a10 a11 : Nat → Int32} (hi : 0 ≤ i3.toInt ∧ i3.toInt ≤ 60) (h : PR a0 a1 a2 i3) : F_m12_reads a0 a1 a2 a3 i3 a10 a11 = (1, upd a10 (8 * a1.toInt.toNat + a2.toInt.toNat) (a10 (8 * a1.toInt.toNat + a2.toInt.toNat) ||| Sb a0), upd a11 (8 * a1.toInt.toNat + a2.toInt.toNat) (if a3.toInt = 0 then a11 (8 * a1.toInt.toNat + a2.toInt.toNat) &&& (Sb a0 ^^^ (-1)) else a11 (8 * a1.toInt.toNat + a2.toInt.toNat) ||| Sb a0)) := by
  obtain ⟨h0, h1, h2⟩ := h
  have c0 : (0 : Int32).toInt = 0 := by decide
  have c1 : (9 : Int32).toInt = 9 := by decide
  have c2 : (7 : Int32).toInt = 7 := by decide
  have ix := idx8m (x := a1) (y := a2) (by omega) h2
  unfold F_m12_reads
  show (if (F_m12_lies a0 0 9).toInt = 0 then f_m12_reads_b_6 a10 a11 else f_m12_reads_b_8 a0 a1 a2 a3 i3 a10 a11) = _
  rw [F_lies1' (by omega), if_neg (by decide)]
  unfold f_m12_reads_b_8
  show (if (F_m12_isVerse a1 i3).toInt = 0 then f_m12_reads_b_15 a10 a11 else f_m12_reads_b_17 a0 a1 a2 a3 a10 a11) = _
  rw [F_isVerse1 hi.1 h1, if_neg (by decide)]
  unfold f_m12_reads_b_17
  show (if (F_m12_lies a2 0 7).toInt ≠ 0 then f_m12_reads_b_23 a0 a1 a2 a3 a10 a11 else f_m12_reads_b_50 a10 a11) = _
  rw [F_lies1' (by omega), if_pos (by decide)]
  show (if a3.toInt = 0 then ((1 : Int32), upd a10 ((8 : Int32) * a1 + a2).toNatClampNeg (a10 ((8 : Int32) * a1 + a2).toNatClampNeg ||| Sb a0), upd a11 ((8 : Int32) * a1 + a2).toNatClampNeg (a11 ((8 : Int32) * a1 + a2).toNatClampNeg &&& (Sb a0 ^^^ (-1)))) else ((1 : Int32), upd a10 ((8 : Int32) * a1 + a2).toNatClampNeg (a10 ((8 : Int32) * a1 + a2).toNatClampNeg ||| Sb a0), upd a11 ((8 : Int32) * a1 + a2).toNatClampNeg (a11 ((8 : Int32) * a1 + a2).toNatClampNeg ||| Sb a0))) = _
  rw [ix]
  by_cases h3 : a3.toInt = 0
  · rw [if_pos h3, if_pos h3]
  · rw [if_neg h3, if_neg h3]
theorem RM_step {a10 a11 b61 b62 n10 n11 n61 n62 : Nat → Int32} {a0 a1 a2 a3 i3 j2 v1 v2 : Int32} (hr : i3.toInt = j2.toInt) (hi : 0 ≤ i3.toInt ∧ i3.toInt ≤ 60) (h : RM a10 a11 b61 b62) (e1 : v1 = (F_x11_reads a0 a1 a2 a3 i3 a10 a11).1) (e2 : n10 = (F_x11_reads a0 a1 a2 a3 i3 a10 a11).2.1) (e3 : n11 = (F_x11_reads a0 a1 a2 a3 i3 a10 a11).2.2) (e4 : v2 = (F_m12_reads a0 a1 a2 a3 j2 b61 b62).1) (e5 : n61 = (F_m12_reads a0 a1 a2 a3 j2 b61 b62).2.1) (e6 : n62 = (F_m12_reads a0 a1 a2 a3 j2 b61 b62).2.2) : v1.toInt = v2.toInt ∧ RM n10 n11 n61 n62 := by
  have ej : i3 = j2 := eq_of_toInt hr
  subst ej
  by_cases hp : PR a0 a1 a2 i3
  · rw [X_reads_yes hi.2 hp] at e1 e2 e3
    rw [M_reads_yes hi hp] at e4 e5 e6
    subst e1; subst e2; subst e3; subst e4; subst e5; subst e6
    refine ⟨rfl, ?_⟩
    intro t ht
    obtain ⟨g1, g2, g3, g4⟩ := h t ht
    obtain ⟨h0, h1, h2⟩ := hp
    dsimp only
    generalize hix : 8 * a1.toInt.toNat + a2.toInt.toNat = ix
    by_cases q : t = ix
    · subst q
      have s1 : ∀ (f : Nat → Int32) (x : Int32), upd f t x t = x := fun f x => by unfold upd; rw [if_pos rfl]
      rw [s1, s1, s1, s1]
      refine ⟨by rw [g1], fun k => ?_, fun k => ?_, fun k hk => ?_⟩
      · have hs : bitI (Sb a0) k = decide (a0.toInt.toNat = k) := bitI_sh h0.1 (by omega) k
        by_cases hk : k < 32
        · have hn : bitI (Sb a0 ^^^ (-1)) k = !decide (a0.toInt.toNat = k) := bitI_nsh h0.1 (by omega) hk
          by_cases h3 : a3.toInt = 0
          · rw [if_pos h3, if_pos h3, bitI_or, bitI_or, bitI_and, hs, hn, g2]
            cases bitI (b61 t) k <;> cases bitI (b62 t) k <;> cases decide (a0.toInt.toNat = k) <;> rfl
          · rw [if_neg h3, if_neg h3, bitI_and, bitI_or, bitI_or, hs, hn, g2]
            cases bitI (b61 t) k <;> cases bitI (b62 t) k <;> cases decide (a0.toInt.toNat = k) <;> rfl
        · rw [bitI_big _ (by omega), bitI_big _ (by omega)]; rfl
      · have hs : bitI (Sb a0) k = decide (a0.toInt.toNat = k) := bitI_sh h0.1 (by omega) k
        have g3k := g3 k
        by_cases h3 : a3.toInt = 0
        · rw [if_pos h3, bitI_or, bitI_and]
          intro q
          rw [g3k (by revert q; cases bitI (b62 t) k <;> simp)]; rfl
        · rw [if_neg h3, bitI_or, bitI_or]
          intro q
          revert g3k q
          cases bitI (b61 t) k <;> cases bitI (b62 t) k <;> cases bitI (Sb a0) k <;> simp
      · have hs : bitI (Sb a0) k = decide (a0.toInt.toNat = k) := bitI_sh h0.1 (by omega) k
        rw [bitI_or, g4 k hk, hs]
        simp only [Bool.false_or, decide_eq_false_iff_not]
        omega
    · have s1 : ∀ (f : Nat → Int32) (x : Int32), upd f ix x t = f t := fun f x => by unfold upd; rw [if_neg q]
      rw [s1, s1, s1, s1]
      exact ⟨g1, g2, g3, g4⟩
  · rw [X_reads_no hp] at e1 e2 e3
    rw [M_reads_no hi.1 hp] at e4 e5 e6
    subst e1; subst e2; subst e3; subst e4; subst e5; subst e6
    exact ⟨rfl, h⟩
/-! how many bits -/
def pcb (f : Nat → Bool) : Nat := (f 0).toNat + (f 1).toNat + (f 2).toNat + (f 3).toNat + (f 4).toNat + (f 5).toNat + (f 6).toNat + (f 7).toNat + (f 8).toNat + (f 9).toNat
theorem pc_x : ∀ k : Fin 1024, bitsF (Int32.ofNat k.1) = Int32.ofNat (pcb (fun j => k.1.testBit j)) := by decide +kernel
theorem pc_m : ∀ k : Fin 1024, F_m12_sizeOf (Int32.ofNat k.1) = Int32.ofNat (pcb (fun j => k.1.testBit j)) := by decide +kernel
theorem small_of {x : Int32} (h : ∀ k, 10 ≤ k → bitI x k = false) : ∃ k : Fin 1024, x = Int32.ofNat k.1 ∧ ∀ j, bitI x j = k.1.testBit j := by
  have hlt : x.toBitVec.toNat < 2 ^ 10 := Nat.lt_pow_two_of_testBit _ (fun i hi => h i hi)
  refine ⟨⟨x.toBitVec.toNat, hlt⟩, ?_, fun j => rfl⟩
  apply Int32.toBitVec_inj.mp
  apply BitVec.eq_of_toNat_eq
  show x.toBitVec.toNat = x.toBitVec.toNat % 2 ^ 32
  omega
theorem pcb_le (f : Nat → Bool) : pcb f ≤ 10 := by
  have h : ∀ b : Bool, b.toNat ≤ 1 := fun b => by cases b <;> decide
  have := h (f 0); have := h (f 1); have := h (f 2); have := h (f 3); have := h (f 4); have := h (f 5); have := h (f 6); have := h (f 7); have := h (f 8); have := h (f 9)
  unfold pcb
  omega
theorem nat11 : ∀ k : Fin 11, (Int32.ofNat k.1).toInt = (k.1 : Int) := by decide
theorem pc_x_at {x : Int32} (h : ∀ k, 10 ≤ k → bitI x k = false) : (bitsF x).toInt = (pcb (bitI x) : Int) := by
  obtain ⟨k, e, hb⟩ := small_of h
  have e2 : bitI x = fun j => k.1.testBit j := funext hb
  rw [e2, e, pc_x k]
  exact nat11 ⟨_, Nat.lt_succ_of_le (pcb_le _)⟩
theorem pc_m_at {x : Int32} (h : ∀ k, 10 ≤ k → bitI x k = false) : (F_m12_sizeOf x).toInt = (pcb (bitI x) : Int) := by
  obtain ⟨k, e, hb⟩ := small_of h
  have e2 : bitI x = fun j => k.1.testBit j := funext hb
  rw [e2, e, pc_m k]
  exact nat11 ⟨_, Nat.lt_succ_of_le (pcb_le _)⟩
theorem pcb_sum {t r w : Nat → Bool} (h1 : ∀ k, w k = (t k && !r k)) (h2 : ∀ k, r k = true → t k = true) : pcb t = pcb r + pcb w := by
  have h : ∀ k, (t k).toNat = (r k).toNat + (w k).toNat := fun k => by
    have := h2 k
    rw [h1 k]
    cases ht : t k <;> cases hr : r k <;> simp_all
  unfold pcb
  rw [h 0, h 1, h 2, h 3, h 4, h 5, h 6, h 7, h 8, h 9]
  omega
theorem or0 (x : Int32) : x ||| 0 = x := by
  apply Int32.toBitVec_inj.mp
  rw [Int32.toBitVec_or]
  show x.toBitVec ||| 0#32 = _
  simp
theorem loop_eq {a10 a11 b61 b62 : Nat → Int32} {a0 i3 : Int32} (h : RM a10 a11 b61 b62) (h1 : 0 ≤ a0.toInt ∧ a0.toInt < i3.toInt) (hi : i3.toInt ≤ 60) : ∀ (n : Nat) (x t : Int32), 0 ≤ t.toInt → f_x9_missedBits_j1 a0 i3 a10 a11 n x t = f_m12_missed_j8 a0 b61 b62 n x t := by
  intro n
  induction n with
  | zero => intro x t ht; rfl
  | succ n ih =>
    intro x t ht
    rw [f_x9_missedBits_j1_s, f_m12_missed_j8_s]
    unfold f_x9_missedBits_J_1 f_m12_missed_J_8
    show (if (F_x9_has a0 i3).toInt = 0 then f_x9_missedBits_b_11 x else f_x9_missedBits_b_13 a0 a10 a11 x t (f_x9_missedBits_j1 a0 i3 a10 a11 n)) = _
    rw [F_has1 h1, if_neg (by decide)]
    unfold f_x9_missedBits_b_13
    by_cases h8 : t.toInt ≥ 8
    · rw [if_pos h8, if_pos h8]; rfl
    · rw [if_neg h8, if_neg h8]
      have ix := idx8x (x := a0) (y := t) (by omega) ⟨ht, by omega⟩
      have iy := idx8m (x := a0) (y := t) (by omega) ⟨ht, by omega⟩
      have et : (t + Int32.ofInt 1).toInt = t.toInt + 1 := toInt_add rfl (by decide) (by omega) (by omega)
      have ihn := fun y => ih y (t + Int32.ofInt 1) (by omega)
      obtain ⟨g1, g2, g3, g4⟩ := h (8 * a0.toInt.toNat + t.toInt.toNat) (by omega)
      unfold f_x9_missedBits_b_17 f_m12_missed_b_15
      show (if (bitsF (a11 (a0 * (8 : Int32) + t).toNatClampNeg)).toInt < 2 then f_x9_missedBits_b_26 x t (f_x9_missedBits_j1 a0 i3 a10 a11 n) else f_x9_missedBits_b_28 a10 x t (f_x9_missedBits_j1 a0 i3 a10 a11 n) (a0 * (8 : Int32) + t) (bitsF (a11 (a0 * (8 : Int32) + t).toNatClampNeg))) = (if (F_m12_sizeOf (b61 ((8 : Int32) * a0 + t).toNatClampNeg) - F_m12_sizeOf (b62 ((8 : Int32) * a0 + t).toNatClampNeg)).toInt ≤ 1 then f_m12_missed_b_30 x t (f_m12_missed_j8 a0 b61 b62 n) else f_m12_missed_b_33 x t (f_m12_missed_j8 a0 b61 b62 n) (F_m12_sizeOf (b61 ((8 : Int32) * a0 + t).toNatClampNeg)) (F_m12_sizeOf (b61 ((8 : Int32) * a0 + t).toNatClampNeg) - F_m12_sizeOf (b62 ((8 : Int32) * a0 + t).toNatClampNeg)))
      rw [iy]
      generalize hix : 8 * a0.toInt.toNat + t.toInt.toNat = ik at *
      have gw : ∀ k, 10 ≤ k → bitI (a11 ik) k = false := fun k hk => by rw [g2, g4 k hk]; rfl
      have gr : ∀ k, 10 ≤ k → bitI (b62 ik) k = false := fun k hk => by
        cases hh : bitI (b62 ik) k with
        | false => rfl
        | true => have := g3 k hh; rw [g4 k hk] at this; cases this
      have c1 := pc_x_at gw
      have c2 := pc_m_at g4
      have c3 := pc_m_at gr
      have c4 := pc_x_at g4
      have s := pcb_sum g2 g3
      have b1 := pcb_le (bitI (b61 ik))
      have e1 : (F_m12_sizeOf (b61 ik) - F_m12_sizeOf (b62 ik)).toInt = (pcb (bitI (a11 ik)) : Int) := by
        rw [toInt_sub c2 c3 (by omega) (by omega)]; omega
      rw [ix]
      by_cases q1 : (bitsF (a11 ik)).toInt < 2
      · rw [if_pos q1, if_pos (by omega)]
        show f_x9_missedBits_j1 a0 i3 a10 a11 n x (t + Int32.ofInt 1) = f_m12_missed_j8 a0 b61 b62 n (x ||| 0) (t + Int32.ofInt 1)
        rw [or0]; exact ihn x
      · rw [if_neg q1, if_neg (by omega)]
        unfold f_x9_missedBits_b_28 f_m12_missed_b_33
        show (if ((2 : Int32) * bitsF (a11 ik)).toInt ≤ (bitsF (a10 (a0 * (8 : Int32) + t).toNatClampNeg)).toInt then f_x9_missedBits_j1 a0 i3 a10 a11 n x (t + Int32.ofInt 1) else f_x9_missedBits_j1 a0 i3 a10 a11 n (x ||| Sb t) (t + Int32.ofInt 1)) = (if ((2 : Int32) * (F_m12_sizeOf (b61 ik) - F_m12_sizeOf (b62 ik))).toInt ≤ (F_m12_sizeOf (b61 ik)).toInt then f_m12_missed_j8 a0 b61 b62 n (x ||| 0) (t + Int32.ofInt 1) else f_m12_missed_j8 a0 b61 b62 n (x ||| Sb t) (t + Int32.ofInt 1))
        rw [ix, g1, or0]
        have d1 : ((2 : Int32) * bitsF (a11 ik)).toInt = 2 * (pcb (bitI (a11 ik)) : Int) := toInt_mul (by decide) c1 rfl (by omega) (by omega)
        have d2 : ((2 : Int32) * (F_m12_sizeOf (b61 ik) - F_m12_sizeOf (b62 ik))).toInt = 2 * (pcb (bitI (a11 ik)) : Int) := toInt_mul (by decide) e1 rfl (by omega) (by omega)
        by_cases q2 : ((2 : Int32) * bitsF (a11 ik)).toInt ≤ (bitsF (b61 ik)).toInt
        · rw [if_pos q2, if_pos (by omega)]; exact ihn x
        · rw [if_neg q2, if_neg (by omega)]; exact ihn _
theorem RM_missed {a10 a11 b61 b62 : Nat → Int32} {a0 i3 j2 v1 v2 : Int32} (hr : i3.toInt = j2.toInt) (hi : 0 ≤ i3.toInt ∧ i3.toInt ≤ 60) (h : RM a10 a11 b61 b62) (e1 : v1 = F_x11_missed a0 i3 a10 a11) (e2 : v2 = F_m12_missed a0 j2 b61 b62) : v1.toInt = v2.toInt := by
  have ej : i3 = j2 := eq_of_toInt hr
  subst ej
  rw [e1, e2]
  unfold F_x11_missed F_m12_missed
  show (if (F_x9_has a0 i3).toInt = 0 then f_x11_missed_b_7 else F_x9_missedBits a0 i3 a10 a11).toInt = (if (F_m12_isVerse a0 i3).toInt ≠ 0 then f_m12_missed_b_7 a0 b61 b62 else f_m12_missed_b_43).toInt
  by_cases h1 : 0 ≤ a0.toInt ∧ a0.toInt < i3.toInt
  · rw [F_has1 h1, F_isVerse1 hi.1 h1, if_neg (by decide), if_pos (by decide)]
    unfold F_x9_missedBits f_m12_missed_b_7
    rw [loop_eq h h1 hi.2 9 0 0 (by decide)]
  · rw [F_has0 h1, F_isVerse0 hi.1 h1, if_pos (by decide), if_neg (by decide)]; rfl
