/-! how many bits are set -/
def cr (f : Nat → Bool) : Nat → Nat → Nat
  | _, 0 => 0
  | X, m + 1 => (f X).toNat + cr f (X + 1) m
theorem cr_shift {f g : Nat → Bool} {d : Nat} (h : ∀ i, g i = f (d + i)) : ∀ (m X : Nat), cr g X m = cr f (d + X) m
  | 0, _ => rfl
  | m + 1, X => by
    show (g X).toNat + cr g (X + 1) m = (f (d + X)).toNat + cr f (d + X + 1) m
    rw [h X, cr_shift h m (X + 1)]
    rfl
theorem cr_congr {f g : Nat → Bool} : ∀ (m X : Nat), (∀ i, X ≤ i → i < X + m → f i = g i) → cr f X m = cr g X m
  | 0, _, _ => rfl
  | m + 1, X, h => by
    show (f X).toNat + cr f (X + 1) m = (g X).toNat + cr g (X + 1) m
    rw [h X (Nat.le_refl _) (by omega), cr_congr m (X + 1) (fun i h1 h2 => h i (by omega) (by omega))]
theorem cr_le (f : Nat → Bool) : ∀ (m X : Nat), cr f X m ≤ m
  | 0, _ => Nat.le_refl _
  | m + 1, X => by
    show (f X).toNat + cr f (X + 1) m ≤ m + 1
    have := cr_le f m (X + 1)
    have : (f X).toNat ≤ 1 := by cases f X <;> decide
    omega
theorem cr_app (f : Nat → Bool) : ∀ (m k X : Nat), cr f X (m + k) = cr f X m + cr f (X + m) k
  | 0, k, X => by rw [Nat.zero_add]; show cr f X k = 0 + cr f X k; rw [Nat.zero_add]
  | m + 1, k, X => by
    rw [show m + 1 + k = (m + k) + 1 by omega]
    show (f X).toNat + cr f (X + 1) (m + k) = ((f X).toNat + cr f (X + 1) m) + cr f (X + (m + 1)) k
    rw [cr_app f m k (X + 1), show X + 1 + m = X + (m + 1) by omega]
    omega
theorem cr_none (f : Nat → Bool) : ∀ (m X : Nat), (∀ i, X ≤ i → i < X + m → f i = false) → cr f X m = 0
  | 0, _, _ => rfl
  | m + 1, X, h => by
    show (f X).toNat + cr f (X + 1) m = 0
    rw [h X (Nat.le_refl _) (by omega), cr_none f m (X + 1) (fun i h1 h2 => h i (by omega) (by omega))]
    rfl
theorem and_dig {j d c u w : Nat} (hd : d < 2 ^ j) (hc : c < 2 ^ j) : (2 ^ j * u + d) &&& (2 ^ j * w + c) = 2 ^ j * (u &&& w) + (d &&& c) := by
  apply Nat.eq_of_testBit_eq
  intro i
  have hdc : d &&& c < 2 ^ j := Nat.lt_of_le_of_lt Nat.and_le_left hd
  rw [Nat.testBit_and, Nat.testBit_two_pow_mul_add _ hd, Nat.testBit_two_pow_mul_add _ hc, Nat.testBit_two_pow_mul_add _ hdc]
  split
  · rw [Nat.testBit_and]
  · rw [Nat.testBit_and]
def mk5 : Nat → Nat
  | 0 => 0
  | m + 1 => 4 * mk5 m + 1
def mk3 : Nat → Nat
  | 0 => 0
  | m + 1 => 16 * mk3 m + 3
def mkf : Nat → Nat
  | 0 => 0
  | m + 1 => 256 * mkf m + 15
/-- twos of bits, counted in place -/
def s2n : Nat → Nat → Nat
  | 0, _ => 0
  | m + 1, n => 4 * s2n m (n / 4) + (n % 4 - n % 4 / 2)
def s4n : Nat → Nat → Nat
  | 0, _ => 0
  | m + 1, n => 16 * s4n m (n / 16) + ((n % 4 - n % 4 / 2) + (n / 4 % 4 - n / 4 % 4 / 2))
def p16 (n : Nat) : Nat := (n % 4 - n % 4 / 2) + (n / 4 % 4 - n / 4 % 4 / 2)
def s8n : Nat → Nat → Nat
  | 0, _ => 0
  | m + 1, n => 256 * s8n m (n / 256) + (p16 n + p16 (n / 16))
theorem a1m {x : Nat} : x &&& 1 = x % 2 := Nat.and_one_is_mod x
theorem and3 : ∀ x : Fin 16, x.1 &&& 3 = x.1 % 4 := by decide
theorem and15 : ∀ x : Fin 256, x.1 &&& 15 = x.1 % 16 := by decide +kernel
theorem half_and : ∀ (m n : Nat), (n / 2) &&& mk5 m ≤ n ∧ n < 4 ^ m → n - ((n / 2) &&& mk5 m) = s2n m n ∧ ((n / 2) &&& mk5 m) + s2n m n = n
  | 0, n, h => by
    have : n = 0 := by have := h.2; omega
    subst this
    exact ⟨rfl, rfl⟩
  | m + 1, n, h => by
    have e : n / 2 = 2 ^ 2 * (n / 8) + n / 2 % 4 := by omega
    have hn : n / 4 < 4 ^ m := by
      have := h.2
      rw [Nat.pow_succ] at this
      omega
    have e1 : (n / 2) &&& mk5 (m + 1) = 4 * ((n / 8) &&& mk5 m) + n % 4 / 2 := by
      show (n / 2) &&& (4 * mk5 m + 1) = _
      rw [show n / 2 &&& (4 * mk5 m + 1) = (2 ^ 2 * (n / 8) + n / 2 % 4) &&& (2 ^ 2 * mk5 m + 1) by rw [← e], and_dig (by omega) (by decide), a1m]
      omega
    have e8 : n / 8 = n / 4 / 2 := by omega
    have le : (n / 4 / 2) &&& mk5 m ≤ n / 4 := Nat.le_trans Nat.and_le_left (by omega)
    have ih := half_and m (n / 4) ⟨le, hn⟩
    rw [e1, e8]
    show n - (4 * ((n / 4 / 2) &&& mk5 m) + n % 4 / 2) = 4 * s2n m (n / 4) + (n % 4 - n % 4 / 2) ∧ (4 * ((n / 4 / 2) &&& mk5 m) + n % 4 / 2) + (4 * s2n m (n / 4) + (n % 4 - n % 4 / 2)) = n
    omega
theorem st4 : ∀ (m n : Nat), (s2n (2 * m) n &&& mk3 m) + (s2n (2 * m) n / 4 &&& mk3 m) = s4n m n
  | 0, n => by show (0 &&& 0) + (0 / 4 &&& 0) = 0; rfl
  | m + 1, n => by
    have e : s2n (2 * (m + 1)) n = 16 * s2n (2 * m) (n / 4 / 4) + 4 * (n / 4 % 4 - n / 4 % 4 / 2) + (n % 4 - n % 4 / 2) := by
      rw [show 2 * (m + 1) = (2 * m + 1) + 1 by omega]
      show 4 * (4 * s2n (2 * m) (n / 4 / 4) + (n / 4 % 4 - n / 4 % 4 / 2)) + (n % 4 - n % 4 / 2) = _
      omega
    have e16 : n / 4 / 4 = n / 16 := by omega
    rw [e16] at e
    have ih := st4 m (n / 16)
    generalize s2n (2 * m) (n / 16) = u at e ih
    have ha : n % 4 - n % 4 / 2 ≤ 2 := by omega
    have hb : n / 4 % 4 - n / 4 % 4 / 2 ≤ 2 := by omega
    show (s2n (2 * (m + 1)) n &&& (16 * mk3 m + 3)) + (s2n (2 * (m + 1)) n / 4 &&& (16 * mk3 m + 3)) = 16 * s4n m (n / 16) + ((n % 4 - n % 4 / 2) + (n / 4 % 4 - n / 4 % 4 / 2))
    generalize n % 4 - n % 4 / 2 = a at *
    generalize n / 4 % 4 - n / 4 % 4 / 2 = b at *
    rw [e]
    have x1 : 16 * u + 4 * b + a = 2 ^ 4 * u + (4 * b + a) := by omega
    have x2 : (16 * u + 4 * b + a) / 4 = 2 ^ 4 * (u / 4) + (4 * (u % 4) + b) := by omega
    have d1 : (4 * b + a) &&& 3 = (4 * b + a) % 4 := and3 ⟨4 * b + a, by omega⟩
    have d2 : (4 * (u % 4) + b) &&& 3 = (4 * (u % 4) + b) % 4 := and3 ⟨4 * (u % 4) + b, by omega⟩
    rw [x2, x1, show (16 * mk3 m + 3) = 2 ^ 4 * mk3 m + 3 by omega, and_dig (by omega) (by decide), and_dig (by omega) (by decide), d1, d2, ← ih]
    omega
theorem s4n_lo : ∀ (m n : Nat), s4n m n % 16 ≤ 4
  | 0, _ => by show 0 % 16 ≤ 4; decide
  | m + 1, n => by
    show (16 * s4n m (n / 16) + ((n % 4 - n % 4 / 2) + (n / 4 % 4 - n / 4 % 4 / 2))) % 16 ≤ 4
    omega
theorem st8 : ∀ (m n : Nat), (s4n (2 * m) n + s4n (2 * m) n / 16) &&& mkf m = s8n m n
  | 0, n => by show (0 + 0 / 16) &&& 0 = 0; rfl
  | m + 1, n => by
    have e : s4n (2 * (m + 1)) n = 256 * s4n (2 * m) (n / 256) + 16 * p16 (n / 16) + p16 n := by
      rw [show 2 * (m + 1) = (2 * m + 1) + 1 by omega]
      show 16 * (16 * s4n (2 * m) (n / 16 / 16) + p16 (n / 16)) + p16 n = _
      rw [show n / 16 / 16 = n / 256 by omega]
      omega
    have ih := st8 m (n / 256)
    have lo := s4n_lo (2 * m) (n / 256)
    have ha : p16 n ≤ 4 := by unfold p16; omega
    have hb : p16 (n / 16) ≤ 4 := by unfold p16; omega
    show (s4n (2 * (m + 1)) n + s4n (2 * (m + 1)) n / 16) &&& (256 * mkf m + 15) = 256 * s8n m (n / 256) + (p16 n + p16 (n / 16))
    generalize s4n (2 * m) (n / 256) = u at *
    generalize p16 n = a at *
    generalize p16 (n / 16) = b at *
    rw [e]
    have x : 256 * u + 16 * b + a + (256 * u + 16 * b + a) / 16 = 2 ^ 8 * (u + u / 16) + (16 * (b + u % 16) + (a + b)) := by omega
    have d : (16 * (b + u % 16) + (a + b)) &&& 15 = (16 * (b + u % 16) + (a + b)) % 16 := and15 ⟨16 * (b + u % 16) + (a + b), by omega⟩
    rw [x, show (256 * mkf m + 15) = 2 ^ 8 * mkf m + 15 by omega, and_dig (by omega) (by decide), ih, d]
    omega
theorem cr_tb (n : Nat) (m X : Nat) : cr (fun i => n.testBit i) (X + 1) m = cr (fun i => (n / 2).testBit i) X m := by
  have := cr_shift (f := fun i => n.testBit i) (g := fun i => (n / 2).testBit i) (d := 1) (fun i => by rw [Nat.add_comm 1 i]; exact (Nat.testBit_add_one n i).symm) m X
  rw [this, Nat.add_comm 1 X]
theorem tb0 (n : Nat) : (n.testBit 0).toNat = n % 2 := by
  rw [Nat.testBit_zero]
  by_cases h : n % 2 = 1
  · rw [decide_eq_true h, h]; rfl
  · rw [decide_eq_false h]; show 0 = _; omega
theorem cr_1 (n m : Nat) : cr (fun i => n.testBit i) 0 (m + 1) = n % 2 + cr (fun i => (n / 2).testBit i) 0 m := by
  show (n.testBit 0).toNat + cr (fun i => n.testBit i) (0 + 1) m = _
  rw [cr_tb, tb0]
theorem cr_4 (n m : Nat) : cr (fun i => n.testBit i) 0 (m + 4) = p16 n + cr (fun i => (n / 16).testBit i) 0 m := by
  rw [show m + 4 = m + 1 + 1 + 1 + 1 from rfl, cr_1, cr_1, cr_1, cr_1, show n / 2 / 2 / 2 / 2 = n / 16 by omega]
  unfold p16
  omega
theorem pc_nat {n : Nat} (h : n < 4294967296) : s8n 4 n % 256 + s8n 4 n / 256 % 256 + s8n 4 n / 65536 % 256 + s8n 4 n / 16777216 = cr (fun i => n.testBit i) 0 32 ∧ s8n 4 n < 4294967296 ∧ s8n 4 n % 256 ≤ 8 ∧ s8n 4 n / 256 % 256 ≤ 8 ∧ s8n 4 n / 65536 % 256 ≤ 8 ∧ s8n 4 n / 16777216 ≤ 8 := by
  rw [show (32 : Nat) = 28 + 4 from rfl, cr_4, show (28 : Nat) = 24 + 4 from rfl, cr_4, show (24 : Nat) = 20 + 4 from rfl, cr_4, show (20 : Nat) = 16 + 4 from rfl, cr_4, show (16 : Nat) = 12 + 4 from rfl, cr_4, show (12 : Nat) = 8 + 4 from rfl, cr_4, show (8 : Nat) = 4 + 4 from rfl, cr_4, show (4 : Nat) = 0 + 4 from rfl, cr_4]
  have z : ∀ g : Nat → Bool, cr g 0 0 = 0 := fun _ => rfl
  rw [z]
  have e : s8n (0 + 4) n = 256 * (256 * (256 * (256 * 0 + (p16 (n / 256 / 256 / 256) + p16 (n / 256 / 256 / 256 / 16))) + (p16 (n / 256 / 256) + p16 (n / 256 / 256 / 16))) + (p16 (n / 256) + p16 (n / 256 / 16))) + (p16 n + p16 (n / 16)) := rfl
  rw [e]
  have q1 : n / 16 / 16 = n / 256 := by omega
  have q2 : n / 16 / 16 / 16 = n / 256 / 16 := by omega
  have q3 : n / 16 / 16 / 16 / 16 = n / 256 / 256 := by omega
  have q4 : n / 16 / 16 / 16 / 16 / 16 = n / 256 / 256 / 16 := by omega
  have q5 : n / 16 / 16 / 16 / 16 / 16 / 16 = n / 256 / 256 / 256 := by omega
  have q6 : n / 16 / 16 / 16 / 16 / 16 / 16 / 16 = n / 256 / 256 / 256 / 16 := by omega
  rw [q6, q5, q4, q3, q2, q1]
  have hp : ∀ k, p16 k ≤ 4 := fun k => by unfold p16; omega
  have p0 := hp n
  have p1 := hp (n / 16)
  have p2 := hp (n / 256)
  have p3 := hp (n / 256 / 16)
  have p4 := hp (n / 256 / 256)
  have p5 := hp (n / 256 / 256 / 16)
  have p6 := hp (n / 256 / 256 / 256)
  have p7 := hp (n / 256 / 256 / 256 / 16)
  clear e q1 q2 q3 q4 q5 q6 hp z h
  generalize p16 n = x0 at *
  generalize p16 (n / 16) = x1 at *
  generalize p16 (n / 256) = x2 at *
  generalize p16 (n / 256 / 16) = x3 at *
  generalize p16 (n / 256 / 256) = x4 at *
  generalize p16 (n / 256 / 256 / 16) = x5 at *
  generalize p16 (n / 256 / 256 / 256) = x6 at *
  generalize p16 (n / 256 / 256 / 256 / 16) = x7 at *
  omega
def bv (x : Int32) : Nat := x.toBitVec.toNat
theorem bv_lt (x : Int32) : bv x < 4294967296 := x.toBitVec.isLt
theorem bv_ush {x : Int32} {y : UInt32} {k : Nat} (hy : (y.toBitVec % 32).toNat = k) : bv ((x.toUInt32 >>> y).toInt32) = bv x / 2 ^ k := by
  show (x.toUInt32.toBitVec >>> (y.toBitVec % 32)).toNat = _
  rw [BitVec.ushiftRight_eq', BitVec.toNat_ushiftRight, hy, Nat.shiftRight_eq_div_pow]
  rfl
theorem bv_and (x y : Int32) : bv (x &&& y) = bv x &&& bv y := by
  unfold bv
  rw [Int32.toBitVec_and, BitVec.toNat_and]
theorem bv_add {x y : Int32} (h : bv x + bv y < 4294967296) : bv (x + y) = bv x + bv y := by
  have e : bv (x + y) = (bv x + bv y) % 4294967296 := by
    unfold bv
    rw [Int32.toBitVec_add, BitVec.toNat_add]
  rw [e]
  omega
theorem bv_sub {x y : Int32} (h : bv y ≤ bv x) : bv (x - y) = bv x - bv y := by
  have e : bv (x - y) = (4294967296 - bv y + bv x) % 4294967296 := by
    unfold bv
    rw [Int32.toBitVec_sub, BitVec.toNat_sub]
  have h1 := bv_lt x
  rw [e]
  omega
theorem bv_int {x : Int32} (h : bv x < 2147483648) : x.toInt = (bv x : Int) := by
  show x.toBitVec.toInt = _
  rw [BitVec.toInt_eq_toNat_of_lt (by show 2 * bv x < 4294967296; omega)]
  rfl
theorem s2n_le : ∀ (m n : Nat), s2n m n ≤ n
  | 0, _ => Nat.zero_le _
  | m + 1, n => by
    have := s2n_le m (n / 4)
    show 4 * s2n m (n / 4) + (n % 4 - n % 4 / 2) ≤ n
    omega
theorem bits_cr (x : Int32) : (bitsF x).toInt = (cr (bitI x) 0 32 : Int) ∧ cr (bitI x) 0 32 ≤ 32 := by
  have hcr : cr (bitI x) 0 32 = cr (fun i => (bv x).testBit i) 0 32 := cr_congr 32 0 (fun i _ _ => rfl)
  refine ⟨?_, cr_le _ 32 0⟩
  rw [hcr]
  have hx := bv_lt x
  have k5 : bv (1431655765 : Int32) = mk5 16 := by decide +kernel
  have k3 : bv (858993459 : Int32) = mk3 8 := by decide +kernel
  have kf : bv (252645135 : Int32) = mkf 4 := by decide +kernel
  have k63 : bv (63 : Int32) = 63 := by decide +kernel
  have u1 : (((1 : Int32).toUInt32 &&& Int32.toUInt32 31).toBitVec % 32).toNat = 1 := by decide +kernel
  have u2 : (((2 : Int32).toUInt32 &&& Int32.toUInt32 31).toBitVec % 32).toNat = 2 := by decide +kernel
  have u4 : (((4 : Int32).toUInt32 &&& Int32.toUInt32 31).toBitVec % 32).toNat = 4 := by decide +kernel
  have u8 : (((8 : Int32).toUInt32 &&& Int32.toUInt32 31).toBitVec % 32).toNat = 8 := by decide +kernel
  have u16 : (((16 : Int32).toUInt32 &&& Int32.toUInt32 31).toBitVec % 32).toNat = 16 := by decide +kernel
  obtain ⟨p1, p2, p3, p4, p5, p6⟩ := pc_nat hx
  have ha := half_and 16 (bv x) ⟨Nat.le_trans Nat.and_le_left (by omega), by omega⟩
  have h4 := st4 8 (bv x)
  have h8 := st8 4 (bv x)
  have l2 := s2n_le 16 (bv x)
  obtain ⟨z1, hz1⟩ : ∃ z : Int32, z = (x.toUInt32 >>> ((1 : Int32).toUInt32 &&& Int32.toUInt32 31)).toInt32 := ⟨_, rfl⟩
  obtain ⟨z2, hz2⟩ : ∃ z : Int32, z = z1 &&& (1431655765 : Int32) := ⟨_, rfl⟩
  obtain ⟨z3, hz3⟩ : ∃ z : Int32, z = x - z2 := ⟨_, rfl⟩
  obtain ⟨z4, hz4⟩ : ∃ z : Int32, z = z3 &&& (858993459 : Int32) := ⟨_, rfl⟩
  obtain ⟨z5, hz5⟩ : ∃ z : Int32, z = (z3.toUInt32 >>> ((2 : Int32).toUInt32 &&& Int32.toUInt32 31)).toInt32 := ⟨_, rfl⟩
  obtain ⟨z6, hz6⟩ : ∃ z : Int32, z = z5 &&& (858993459 : Int32) := ⟨_, rfl⟩
  obtain ⟨z7, hz7⟩ : ∃ z : Int32, z = z4 + z6 := ⟨_, rfl⟩
  obtain ⟨z8, hz8⟩ : ∃ z : Int32, z = (z7.toUInt32 >>> ((4 : Int32).toUInt32 &&& Int32.toUInt32 31)).toInt32 := ⟨_, rfl⟩
  obtain ⟨z9, hz9⟩ : ∃ z : Int32, z = z7 + z8 := ⟨_, rfl⟩
  obtain ⟨z10, hz10⟩ : ∃ z : Int32, z = z9 &&& (252645135 : Int32) := ⟨_, rfl⟩
  obtain ⟨z11, hz11⟩ : ∃ z : Int32, z = (z10.toUInt32 >>> ((8 : Int32).toUInt32 &&& Int32.toUInt32 31)).toInt32 := ⟨_, rfl⟩
  obtain ⟨z12, hz12⟩ : ∃ z : Int32, z = z10 + z11 := ⟨_, rfl⟩
  obtain ⟨z13, hz13⟩ : ∃ z : Int32, z = (z12.toUInt32 >>> ((16 : Int32).toUInt32 &&& Int32.toUInt32 31)).toInt32 := ⟨_, rfl⟩
  obtain ⟨z14, hz14⟩ : ∃ z : Int32, z = z12 + z13 := ⟨_, rfl⟩
  obtain ⟨z15, hz15⟩ : ∃ z : Int32, z = z14 &&& (63 : Int32) := ⟨_, rfl⟩
  rw [← bitsF_of hz1 hz2 hz3 hz4 hz5 hz6 hz7 hz8 hz9 hz10 hz11 hz12 hz13 hz14 hz15]
  have e1 : bv z1 = bv x / 2 := by rw [hz1]; exact bv_ush u1
  have e2 : bv z2 = (bv x / 2) &&& mk5 16 := by rw [hz2, bv_and, e1, k5]
  have e3 : bv z3 = s2n 16 (bv x) := by rw [hz3, bv_sub (by rw [e2]; omega), e2]; exact ha.1
  have e4 : bv z4 = s2n 16 (bv x) &&& mk3 8 := by rw [hz4, bv_and, e3, k3]
  have e5 : bv z5 = s2n 16 (bv x) / 4 := by rw [show bv z5 = bv z3 / 2 ^ 2 by rw [hz5]; exact bv_ush u2, e3]
  have e6 : bv z6 = s2n 16 (bv x) / 4 &&& mk3 8 := by rw [hz6, bv_and, e5, k3]
  have b4 : bv z4 ≤ s2n 16 (bv x) ∧ bv z4 ≤ mk3 8 := by rw [e4]; exact ⟨Nat.and_le_left, Nat.and_le_right⟩
  have b6 : bv z6 ≤ s2n 16 (bv x) / 4 ∧ bv z6 ≤ mk3 8 := by rw [e6]; exact ⟨Nat.and_le_left, Nat.and_le_right⟩
  have k3v : mk3 8 = 858993459 := by decide +kernel
  have e7 : bv z7 = s4n 8 (bv x) := by rw [hz7, bv_add (by omega), e4, e6]; exact h4
  have b7 : bv z7 ≤ 1717986918 := by rw [hz7, bv_add (by omega)]; omega
  have e8 : bv z8 = s4n 8 (bv x) / 16 := by rw [show bv z8 = bv z7 / 2 ^ 4 by rw [hz8]; exact bv_ush u4, e7]
  have e9 : bv z9 = s4n 8 (bv x) + s4n 8 (bv x) / 16 := by rw [hz9, bv_add (by rw [e7, e8]; rw [e7] at b7; omega), e7, e8]
  have e10 : bv z10 = s8n 4 (bv x) := by rw [hz10, bv_and, e9, kf]; exact h8
  have e11 : bv z11 = s8n 4 (bv x) / 256 := by rw [show bv z11 = bv z10 / 2 ^ 8 by rw [hz11]; exact bv_ush u8, e10]
  have e12 : bv z12 = s8n 4 (bv x) + s8n 4 (bv x) / 256 := by rw [hz12, bv_add (by rw [e10, e11]; omega), e10, e11]
  have e13 : bv z13 = (s8n 4 (bv x) + s8n 4 (bv x) / 256) / 65536 := by rw [show bv z13 = bv z12 / 2 ^ 16 by rw [hz13]; exact bv_ush u16, e12]
  have e14 : bv z14 = (s8n 4 (bv x) + s8n 4 (bv x) / 256) + (s8n 4 (bv x) + s8n 4 (bv x) / 256) / 65536 := by rw [hz14, bv_add (by rw [e12, e13]; omega), e12, e13]
  have e15 : bv z15 = bv z14 % 64 := by
    rw [hz15, bv_and, k63]
    exact Nat.and_two_pow_sub_one_eq_mod (bv z14) 6
  rw [bv_int (by rw [e15]; omega), e15, e14]
  clear e1 e2 e3 e4 e5 e6 e7 e8 e9 e10 e11 e12 e13 e14 e15 b4 b6 b7 h4 h8 ha l2 hcr hz1 hz2 hz3 hz4 hz5 hz6 hz7 hz8 hz9 hz10 hz11 hz12 hz13 hz14 hz15
  generalize s8n 4 (bv x) = w at *
  generalize cr (fun i => (bv x).testBit i) 0 32 = q at *
  obtain ⟨b0, b1, b2, b3, hw, h0, h1, h2, h3, hq⟩ : ∃ b0 b1 b2 b3 : Nat, w = b0 + 256 * b1 + 65536 * b2 + 16777216 * b3 ∧ b0 ≤ 8 ∧ b1 ≤ 8 ∧ b2 ≤ 8 ∧ b3 ≤ 8 ∧ q = b0 + b1 + b2 + b3 := ⟨w % 256, w / 256 % 256, w / 65536 % 256, w / 16777216, by omega, p3, p4, p5, p6, by omega⟩
  clear p1 p2 p3 p4 p5 p6
  have a1 : w / 256 = b1 + 256 * b2 + 65536 * b3 := by omega
  have a2 : (w + (b1 + 256 * b2 + 65536 * b3)) / 65536 = b2 + b3 + 256 * b3 := by omega
  rw [a1, a2]
  omega
