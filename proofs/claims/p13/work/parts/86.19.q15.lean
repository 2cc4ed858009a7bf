/-! ASKS, on both sides: companies, laws in force -/
theorem qI_or (x z : Int32) (k : Nat) : bitI (x ||| z) k = (bitI x k || bitI z k) := BitVec.getLsbD_or
theorem qI_and (x z : Int32) (k : Nat) : bitI (x &&& z) k = (bitI x k && bitI z k) := BitVec.getLsbD_and
theorem qI_sh {y : Int32} (h0 : 0 ≤ y.toInt) (h1 : y.toInt < 32) (k : Nat) : bitI ((1 : Int32) <<< (y &&& 31)) k = decide (y.toInt.toNat = k) := by
  unfold bitI
  rw [sh32_at h0 h1, BitVec.getLsbD_twoPow]
  simp only [show y.toInt.toNat < 32 by omega, decide_true, Bool.true_and]
theorem qI_0 (k : Nat) : bitI 0 k = false := by
  unfold bitI
  rw [show (0 : Int32).toBitVec = 0#32 from rfl, BitVec.getLsbD_zero]
theorem qI_pow {x y : Int32} (h0 : 0 ≤ y.toInt) (h1 : y.toInt < 32) : (x &&& ((1 : Int32) <<< (y &&& 31))).toInt = 0 ↔ bitI x y.toInt.toNat = false := by
  constructor
  · intro h
    have h2 : x &&& ((1 : Int32) <<< (y &&& 31)) = 0 := eq_of_toInt (h.trans c0.symm)
    have h3 := congrArg (fun z => bitI z y.toInt.toNat) h2
    simp only [qI_and, qI_sh h0 h1, qI_0, decide_true, Bool.and_true] at h3
    exact h3
  · intro h
    have h2 : x &&& ((1 : Int32) <<< (y &&& 31)) = 0 := by
      apply Int32.toBitVec_inj.mp
      apply BitVec.eq_of_getLsbD_eq
      intro j hj
      show bitI (x &&& ((1 : Int32) <<< (y &&& 31))) j = bitI 0 j
      rw [qI_and, qI_sh h0 h1, qI_0]
      by_cases q : y.toInt.toNat = j
      · subst q
        rw [h, Bool.false_and]
      · rw [decide_eq_false q, Bool.and_false]
    rw [h2]; exact c0
theorem qI_shr : ∀ k : Fin 32, ∀ x : Int32, bitI (x >>> (Int32.ofInt (k.1 : Int) &&& 31)) 0 = bitI x k.1 := by
  have e : ∀ k : Fin 32, (Int32.ofInt (k.1 : Int) &&& 31).toBitVec.smod 32 = BitVec.ofNat 32 k.1 := by decide +kernel
  intro k x
  have e1 : (x >>> (Int32.ofInt (k.1 : Int) &&& 31)).toBitVec = x.toBitVec.sshiftRight' ((Int32.ofInt (k.1 : Int) &&& 31).toBitVec.smod 32) := rfl
  unfold bitI
  rw [e1, e k]
  show (x.toBitVec.sshiftRight (BitVec.ofNat 32 k.1).toNat).getLsbD 0 = _
  rw [BitVec.getLsbD_sshiftRight]
  have hk : (BitVec.ofNat 32 k.1).toNat = k.1 := by
    rw [BitVec.toNat_ofNat]; omega
  rw [hk]
  have := k.2
  rw [if_pos (by omega), Nat.add_zero]
  simp only [decide_eq_false (show ¬ (32 ≤ 0) by omega), Bool.not_false, Bool.true_and]
theorem qI_one {x y : Int32} (h0 : 0 ≤ y.toInt) (h1 : y.toInt < 32) : ((x >>> (y &&& 31)) &&& (1 : Int32)).toInt = 1 ↔ bitI x y.toInt.toNat = true := by
  have h := qI_shr ⟨y.toInt.toNat, by omega⟩ x
  rw [show Int32.ofInt (((⟨y.toInt.toNat, by omega⟩ : Fin 32).1 : Nat) : Int) = y from of_nn h0] at h
  have h : bitI (x >>> (y &&& 31)) 0 = bitI x y.toInt.toNat := h
  rw [← h]
  generalize x >>> (y &&& 31) = z
  have e1 : ∀ k, bitI 1 k = decide (k = 0) := by
    intro k
    unfold bitI
    rw [show (1 : Int32).toBitVec = 1#32 from rfl, BitVec.getLsbD_one]
    by_cases g : k = 0
    · simp [g]
    · simp [g]
  constructor
  · intro g
    have g2 : z &&& (1 : Int32) = 1 := eq_of_toInt (g.trans c1.symm)
    have g3 := congrArg (fun w => bitI w 0) g2
    simp only [qI_and, e1, decide_true, Bool.and_true] at g3
    exact g3
  · intro g
    have g2 : z &&& (1 : Int32) = 1 := by
      apply Int32.toBitVec_inj.mp
      apply BitVec.eq_of_getLsbD_eq
      intro j hj
      show bitI (z &&& 1) j = bitI 1 j
      rw [qI_and, e1]
      by_cases q : j = 0
      · subst q
        rw [g, Bool.true_and]
      · rw [decide_eq_false q, Bool.and_false]
    rw [g2]; exact c1
def PPL (i6 : Int32) (a13 b8 : Nat → Int32) : Prop := ∀ s : Nat, (s : Int) < i6.toInt → a13 s = b8 s
def VRS (i3 : Int32) (a7 b2 : Nat → Int32) : Prop := ∀ v : Nat, (v : Int) < i3.toInt → a7 v = b2 v ∧ 0 ≤ (b2 v).toInt ∧ (b2 v).toInt ≤ 7
theorem has_eq {x bk i6 : Int32} {a13 b8 : Nat → Int32} {s : Nat} (hx : x.toInt = (s : Int)) (hs : (s : Int) < i6.toInt) (hP : PPL i6 a13 b8) (hb : 0 ≤ bk.toInt ∧ bk.toInt ≤ 7) : F_x4_hasBook x bk i6 a13 = F_m12_has (b8 x.toNatClampNeg) bk := by
  rw [E_x4_hasBook, E_m12_has, nc hx, hP s hs]
  rcases xcom (u := x) (i6 := i6) with ⟨_, h⟩ | ⟨h1, _⟩
  · rw [h, if_neg n10]
    have p := qI_pow (x := b8 s) hb.1 (by omega)
    have o := qI_one (x := b8 s) hb.1 (by omega)
    by_cases w : bitI (b8 s) bk.toInt.toNat = false
    · rw [if_pos (p.mpr w), if_pos (fun z => by rw [o.mp z] at w; cases w)]
    · have w' : bitI (b8 s) bk.toInt.toNat = true := by revert w; cases bitI (b8 s) bk.toInt.toNat <;> simp
      rw [if_neg (fun z => w (p.mp z)), if_neg (fun z => z (o.mpr w'))]
  · omega
theorem com_loop {v bk i6 : Int32} {a13 b2 b8 : Nat → Int32} (hP : PPL i6 a13 b8) (hk : b2 v.toNatClampNeg = bk) (hb : 0 ≤ bk.toInt ∧ bk.toInt ≤ 7) : ∀ (m f g : Nat) (x : Int32) (k : Nat), x.toInt = (k : Int) → i6.toInt = (k : Int) + m → i6.toInt ≤ 6 → m < f → m < g → f_x4_companyOf_j1 bk i6 a13 f x = f_m12_companyOf_j1 v i6 b2 b8 g x := by
  intro m
  induction m with
  | zero =>
    intro f g x k hx hi _ hf hg
    obtain ⟨f, rfl⟩ : ∃ w, f = w + 1 := ⟨f - 1, by omega⟩
    obtain ⟨g, rfl⟩ : ∃ w, g = w + 1 := ⟨g - 1, by omega⟩
    rw [S_x4_companyOf_j1, S_m12_companyOf_j1, if_pos (show x.toInt ≥ i6.toInt by omega), if_pos (show x.toInt ≥ i6.toInt by omega)]
  | succ m ih =>
    intro f g x k hx hi hi6 hf hg
    obtain ⟨f, rfl⟩ : ∃ w, f = w + 1 := ⟨f - 1, by omega⟩
    obtain ⟨g, rfl⟩ : ∃ w, g = w + 1 := ⟨g - 1, by omega⟩
    have hx1 := toInt_add hx co1 (by omega) (by omega)
    rw [S_x4_companyOf_j1, S_m12_companyOf_j1, if_neg (show ¬ x.toInt ≥ i6.toInt by omega), if_neg (show ¬ x.toInt ≥ i6.toInt by omega), has_eq hx (by omega) hP hb, hk]
    by_cases w : (F_m12_has (b8 x.toNatClampNeg) bk).toInt = 0
    · rw [if_pos w, if_pos w]
      exact ih f g (x + Int32.ofInt 1) (k + 1) (by omega) (by omega) hi6 (by omega) (by omega)
    · rw [if_neg w, if_neg w]
theorem com_of {v i6 : Int32} {a13 b2 b8 : Nat → Int32} (hP : PPL i6 a13 b8) (hb : 0 ≤ (b2 v.toNatClampNeg).toInt ∧ (b2 v.toNatClampNeg).toInt ≤ 7) (h6 : 0 ≤ i6.toInt ∧ i6.toInt ≤ 6) : F_x4_companyOf (b2 v.toNatClampNeg) i6 a13 = F_m12_companyOf v i6 b2 b8 := by
  rw [E_x4_companyOf, E_m12_companyOf]
  exact com_loop hP rfl hb i6.toInt.toNat 7 7 0 0 c0 (by omega) h6.2 (by omega) (by omega)
theorem bnd_eq {x v day i6 i9 : Int32} {a18 a19 a20 a21 a22 a23 a24 a25 b2 b8 b15 b16 b17 b18 b19 b20 b21 b22 : Nat → Int32} (hx : 0 ≤ x.toInt ∧ x.toInt < i9.toInt) (hL : LAW i9 a18 a19 a20 a21 a22 a23 a24 a25 b15 b16 b17 b18 b19 b20 b21 b22) :
    F_x2_binds x (F_m12_companyOf v i6 b2 b8) day i9 a18 a19 a20 = F_m12_isInForce x v day i6 b2 b8 b15 b16 b17 := by
  obtain ⟨i, hi⟩ : ∃ i : Nat, x.toInt = (i : Int) := ⟨x.toInt.toNat, by omega⟩
  obtain ⟨h1, h2, h3, _⟩ := hL i (by omega)
  rw [E_x2_binds, E_m12_isInForce, if_neg (by omega), if_neg (by omega), nc hi, h1, h2, h3]
  rcases mlie (u := day) (a := b16 i) (b := b17 i) rfl rfl with ⟨g1, g⟩ | ⟨g1, g⟩
  · rw [g, if_neg n10, if_neg (show ¬ day.toInt < (b16 i).toInt by omega), if_pos (show day.toInt ≤ (b17 i).toInt by omega)]
  · rw [g, if_pos y00]
    by_cases w : day.toInt < (b16 i).toInt
    · rw [if_pos w]
    · rw [if_neg w, if_neg (show ¬ day.toInt ≤ (b17 i).toInt by omega)]
def FRC (v day i6 i9 : Int32) (b2 b8 b15 b16 b17 : Nat → Int32) (i20 : Int32) : Prop := ∀ y : Int32, 0 ≤ y.toInt → y.toInt < i9.toInt → (bitI i20 y.toInt.toNat = true ↔ (F_m12_isInForce y v day i6 b2 b8 b15 b16 b17).toInt ≠ 0)
theorem aim_loop {v day i3 i6 i9 v1 v5 : Int32} {a18 a19 a20 a21 a22 a23 a24 a25 b2 b8 b15 b16 b17 b18 b19 b20 b21 b22 : Nat → Int32} {r9n : Nat → Nat} {r9c : Nat → Nat → Int32} (h9 : 0 ≤ i9.toInt ∧ i9.toInt ≤ 20) (hL : LAW i9 a18 a19 a20 a21 a22 a23 a24 a25 b15 b16 b17 b18 b19 b20 b21 b22) :
    ∀ (m f : Nat) (x i20 : Int32) (k : Nat), x.toInt = (k : Int) → i9.toInt = (k : Int) + m → m < f → (∀ y : Int32, 0 ≤ y.toInt → y.toInt < (k : Int) → (bitI i20 y.toInt.toNat = true ↔ (F_m12_isInForce y v day i6 b2 b8 b15 b16 b17).toInt ≠ 0)) → (∀ j, k ≤ j → bitI i20 j = false) →
    ∃ i20', f_x6_aim_j14 v day i3 i9 a18 a19 a20 a21 a22 a23 a25 r9n r9c v1 v5 (F_m12_companyOf v i6 b2 b8) f x i20 = (v, day, F_m12_companyOf v i6 b2 b8, i20', (F_x6_findCopy i3 i9 v i20' a21 a22 a23 a25 r9n r9c).1, (F_x6_findCopy i3 i9 v i20' a21 a22 a23 a25 r9n r9c).2, v1, v5) ∧ FRC v day i6 i9 b2 b8 b15 b16 b17 i20' := by
  intro m
  induction m with
  | zero =>
    intro f x i20 k hx hi hf hB _
    obtain ⟨f, rfl⟩ : ∃ w, f = w + 1 := ⟨f - 1, by omega⟩
    rw [S_x6_aim_j14, if_pos (show x.toInt ≥ (F_x2_size i9).toInt by show x.toInt ≥ i9.toInt; omega)]
    exact ⟨i20, rfl, fun y h1 h2 => hB y h1 (by omega)⟩
  | succ m ih =>
    intro f x i20 k hx hi hf hB hZ
    obtain ⟨f, rfl⟩ : ∃ w, f = w + 1 := ⟨f - 1, by omega⟩
    have hx1 := toInt_add hx co1 (by omega) (by omega)
    rw [S_x6_aim_j14, if_neg (show ¬ x.toInt ≥ (F_x2_size i9).toInt by show ¬ x.toInt ≥ i9.toInt; omega), bnd_eq (i6 := i6) (by omega) hL]
    by_cases w : (F_m12_isInForce x v day i6 b2 b8 b15 b16 b17).toInt = 0
    · rw [if_pos w]
      refine ih f (x + Int32.ofInt 1) i20 (k + 1) (by omega) (by omega) (by omega) (fun y h1 h2 => ?_) (fun j hj => hZ j (by omega))
      by_cases e : y.toInt = (k : Int)
      · have ey : y = x := eq_of_toInt (e.trans hx.symm)
        rw [ey]
        have z := hZ x.toInt.toNat (by omega)
        exact ⟨fun q => (by rw [z] at q; cases q), fun q => absurd w q⟩
      · exact hB y h1 (by omega)
    · rw [if_neg w]
      refine ih f (x + Int32.ofInt 1) (i20 ||| ((1 : Int32) <<< (x &&& 31))) (k + 1) (by omega) (by omega) (by omega) (fun y h1 h2 => ?_) (fun j hj => ?_)
      · rw [qI_or, qI_sh (by omega) (by omega)]
        by_cases e : y.toInt = (k : Int)
        · have ey : y = x := eq_of_toInt (by omega)
          rw [ey, decide_eq_true rfl, Bool.or_true]
          exact ⟨fun _ => w, fun _ => rfl⟩
        · rw [decide_eq_false (by omega), Bool.or_false]
          exact hB y h1 (by omega)
      · rw [qI_or, qI_sh (by omega) (by omega), hZ j (by omega), decide_eq_false (by omega), Bool.or_false]
theorem frc_at {v day i6 i9 i20 y : Int32} {b2 b8 b15 b16 b17 : Nat → Int32} (h : FRC v day i6 i9 b2 b8 b15 b16 b17 i20) (h9 : i9.toInt ≤ 20) (h0 : 0 ≤ y.toInt) (h1 : y.toInt < i9.toInt) : (F_x6_isInForce y i20).toInt ≠ 0 ↔ (F_m12_isInForce y v day i6 b2 b8 b15 b16 b17).toInt ≠ 0 := by
  rw [← h y h0 h1, E_x6_isInForce]
  have p := qI_pow (x := i20) h0 (by omega)
  by_cases w : bitI i20 y.toInt.toNat = false
  · rw [if_pos (p.mpr w)]
    exact ⟨fun q => absurd c0 q, fun q => by rw [w] at q; cases q⟩
  · have w' : bitI i20 y.toInt.toNat = true := by revert w; cases bitI i20 y.toInt.toNat <;> simp
    rw [if_neg (fun z => w (p.mp z))]
    exact ⟨fun _ => w', fun _ => n10⟩
