/-! DIFFER, on both sides: the fewest changes -/
def ED (s t : Nat → Int) : Nat → Nat → Int
  | 0, j => (j : Int)
  | i + 1, 0 => (i : Int) + 1
  | i + 1, j + 1 => min (ED s t i j + (if s i = t j then 0 else 1)) (1 + min (ED s t (i + 1) j) (ED s t i (j + 1)))
theorem ED_b {s t : Nat → Int} : ∀ i j : Nat, 0 ≤ ED s t i j ∧ ED s t i j ≤ (i : Int) + j := by
  intro i
  induction i with
  | zero => intro j; unfold ED; omega
  | succ i ih =>
    intro j
    induction j with
    | zero => unfold ED; omega
    | succ j jh =>
      have h1 := ih j
      have h2 := ih (j + 1)
      unfold ED
      split <;> omega
theorem ED_0 {s t : Nat → Int} (j : Nat) : ED s t 0 j = (j : Int) := by unfold ED; rfl
theorem ED_s0 {s t : Nat → Int} (i : Nat) : ED s t (i + 1) 0 = (i : Int) + 1 := by unfold ED; rfl
theorem ED_n0 {s t : Nat → Int} (i : Nat) : ED s t i 0 = (i : Int) := by
  cases i with
  | zero => rw [ED_0]
  | succ i => rw [ED_s0]; omega
theorem ED_ss {s t : Nat → Int} (i j : Nat) : ED s t (i + 1) (j + 1) = min (ED s t i j + (if s i = t j then 0 else 1)) (1 + min (ED s t (i + 1) j) (ED s t i (j + 1))) := by
  rw [ED]
theorem minI_i {x y : Int32} : (minI x y).toInt = min x.toInt y.toInt := by
  unfold minI
  by_cases h : x.toInt ≤ y.toInt
  · rw [if_pos h]; omega
  · rw [if_neg h]; omega
theorem ofNat_i {n : Nat} (h : n < 1000) : (Int32.ofNat n).toInt = (n : Int) := Int32.toInt_ofNat_of_lt (by omega)
section XD
variable {n0 n1 : Nat} {f0 f1 : Nat → Int32} {s t : Nat → Int}
theorem xd_init (hn : n1 ≤ 8) : ∀ (m f : Nat) (x : Int32) (k : Nat) (a2 : Nat → Int32), x.toInt = (k : Int) → k + m = n1 + 1 → m < f → (∀ j, j < k → (a2 j).toInt = (j : Int)) →
    ∃ c2, f_x11_distance_j5 n0 f0 n1 f1 f x a2 = f_x11_distance_j12 n0 f0 n1 f1 202 0 c2 ∧ ∀ j, j ≤ n1 → (c2 j).toInt = (j : Int) := by
  intro m
  have e1 := ofNat_i (n := n1) (by omega)
  induction m with
  | zero =>
    intro f x k a2 hx hk hf hB
    obtain ⟨f, rfl⟩ : ∃ w, f = w + 1 := ⟨f - 1, by omega⟩
    rw [S_x11_distance_j5, if_pos (by omega)]
    exact ⟨a2, rfl, fun j hj => hB j (by omega)⟩
  | succ m ih =>
    intro f x k a2 hx hk hf hB
    obtain ⟨f, rfl⟩ : ∃ w, f = w + 1 := ⟨f - 1, by omega⟩
    have hx1 := toInt_add hx co1 (by omega) (by omega)
    rw [S_x11_distance_j5, if_neg (by omega), nc hx]
    refine ih f (x + Int32.ofInt 1) (k + 1) (upd a2 k x) (by omega) (by omega) (by omega) (fun j hj => ?_)
    unfold upd
    by_cases w : j = k
    · rw [if_pos w, w]; exact hx
    · rw [if_neg w]; exact hB j (by omega)
theorem xd_in {self : Int32 → (Nat → Int32) → Int32 × (Nat → Int32)} {x13 : Int32} {i : Nat} (hn : n1 ≤ 8) (hi : i < 8) (h13 : x13.toInt = (i : Int)) (hs : (f0 i).toInt = s i) (ht : ∀ j, j < n1 → (f1 j).toInt = t j) :
    ∀ (m f : Nat) (x28 x29 : Int32) (j : Nat) (a2 : Nat → Int32), x29.toInt = (j : Int) → j + m = n1 → m < f → x28.toInt = ED s t i j → (∀ k, k ≤ j → (a2 k).toInt = ED s t (i + 1) k) → (∀ k, j < k → k ≤ n1 → (a2 k).toInt = ED s t i k) →
    ∃ c2, f_x11_distance_j27 f0 n1 f1 x13 self f x28 x29 a2 = self (x13 + Int32.ofInt 1) c2 ∧ ∀ k, k ≤ n1 → (c2 k).toInt = ED s t (i + 1) k := by
  intro m
  have en := ofNat_i (n := n1) (by omega)
  induction m with
  | zero =>
    intro f x28 x29 j a2 hx hk hf hc hA hB
    obtain ⟨f, rfl⟩ : ∃ w, f = w + 1 := ⟨f - 1, by omega⟩
    rw [S_x11_distance_j27, if_pos (by omega)]
    exact ⟨a2, rfl, fun k hk => hA k (by omega)⟩
  | succ m ih =>
    intro f x28 x29 j a2 hx hk hf hc hA hB
    obtain ⟨f, rfl⟩ : ∃ w, f = w + 1 := ⟨f - 1, by omega⟩
    have hx1 := toInt_add hx co1 (by omega) (by omega)
    have hx2 := toInt_add hx c1 (by omega) (by omega)
    have hx3 : (x29 + 1).toInt = ((j + 1 : Nat) : Int) := by omega
    have b1 := ED_b (s := s) (t := t) i j
    have b2 := ED_b (s := s) (t := t) (i + 1) j
    have b3 := ED_b (s := s) (t := t) i (j + 1)
    have g1 := hA j (by omega)
    have g2 := hB (j + 1) (by omega) (by omega)
    have e1 := c1
    have e0 := c0
    have K : ∀ y : Int32, y.toInt = (if s i = t j then 0 else 1) → (minI (x28 + y) ((1 : Int32) + minI (a2 j) (a2 (j + 1)))).toInt = ED s t (i + 1) (j + 1) := by
      intro y hy
      have hy01 : 0 ≤ y.toInt ∧ y.toInt ≤ 1 := by split at hy <;> omega
      have m1 := toInt_add (x := x28) (y := y) rfl rfl (by omega) (by omega)
      have m2 := minI_i (x := a2 j) (y := a2 (j + 1))
      have m3 := toInt_add (x := (1 : Int32)) (y := minI (a2 j) (a2 (j + 1))) e1 m2 (by omega) (by omega)
      rw [minI_i, m1, m3, ED_ss, hc, hy, g1, g2]
    have go : ∀ y : Int32, y.toInt = (if s i = t j then 0 else 1) → ∃ c2, f_x11_distance_j39 x29 a2 (f_x11_distance_j27 f0 n1 f1 x13 self f) y x28 = self (x13 + Int32.ofInt 1) c2 ∧ ∀ k, k ≤ n1 → (c2 k).toInt = ED s t (i + 1) k := by
      intro y hy
      rw [E_x11_distance_j39, nc hx, nc hx3]
      refine ih f (a2 (j + 1)) (x29 + Int32.ofInt 1) (j + 1) _ (by omega) (by omega) (by omega) g2 (fun k hk2 => ?_) (fun k hk1 hk2 => ?_)
      · unfold upd
        by_cases w : k = j + 1
        · rw [if_pos w, w]; exact K y hy
        · rw [if_neg w]; exact hA k (by omega)
      · unfold upd
        rw [if_neg (by omega)]; exact hB k (by omega) hk2
    have t1 := ht j (by omega)
    rw [S_x11_distance_j27, if_neg (by omega), nc h13, nc hx]
    by_cases w : (f0 i).toInt ≠ (f1 j).toInt
    · rw [if_pos w]
      exact go 1 (by rw [if_neg (by omega)]; exact e1)
    · rw [if_neg w]
      exact go 0 (by rw [if_pos (by omega)]; exact e0)
theorem xd_out (hn0 : n0 ≤ 8) (hn : n1 ≤ 8) (hs : ∀ i, i < n0 → (f0 i).toInt = s i) (ht : ∀ j, j < n1 → (f1 j).toInt = t j) : ∀ (m f : Nat) (x : Int32) (i : Nat) (a2 : Nat → Int32), x.toInt = (i : Int) → i + m = n0 → m < f → (∀ k, k ≤ n1 → (a2 k).toInt = ED s t i k) → (f_x11_distance_j12 n0 f0 n1 f1 f x a2).1.toInt = ED s t n0 n1 := by
  intro m
  have en0 := ofNat_i (n := n0) (by omega)
  have en := ofNat_i (n := n1) (by omega)
  have e00 : ((0 : Int32)).toNatClampNeg = 0 := by decide
  have e1 := c1
  induction m with
  | zero =>
    intro f x i a2 hx hk hf hA
    obtain ⟨f, rfl⟩ : ∃ w, f = w + 1 := ⟨f - 1, by omega⟩
    rw [S_x11_distance_j12, if_pos (by omega), nc en]
    show (a2 n1).toInt = _
    rw [hA n1 (by omega), show i = n0 by omega]
  | succ m ih =>
    intro f x i a2 hx hk hf hA
    obtain ⟨f, rfl⟩ : ∃ w, f = w + 1 := ⟨f - 1, by omega⟩
    have hx1 := toInt_add hx co1 (by omega) (by omega)
    have hx2 := toInt_add hx c1 (by omega) (by omega)
    rw [S_x11_distance_j12, if_neg (by omega), e00]
    obtain ⟨c2, q1, q2⟩ := xd_in (self := f_x11_distance_j12 n0 f0 n1 f1 f) (s := s) (t := t) hn (by omega) hx (hs i (by omega)) ht n1 201 (a2 0) 0 0 (upd a2 0 (x + 1)) c0 (by omega) (by omega) (hA 0 (by omega))
      (fun k hk2 => by
        have e : k = 0 := by omega
        subst e
        unfold upd
        rw [if_pos rfl, ED_s0]; omega)
      (fun k hk1 hk2 => by
        unfold upd
        rw [if_neg (by omega)]; exact hA k hk2)
    rw [q1]
    exact ih f (x + Int32.ofInt 1) (i + 1) c2 (by omega) (by omega) (by omega) q2
theorem xd_all {a2 : Nat → Int32} (hn0 : n0 ≤ 8) (hn : n1 ≤ 8) (hs : ∀ i, i < n0 → (f0 i).toInt = s i) (ht : ∀ j, j < n1 → (f1 j).toInt = t j) : (F_x11_distance n0 f0 n1 f1 a2).1.toInt = ED s t n0 n1 := by
  have en := ofNat_i (n := n1) (by omega)
  rw [E_x11_distance, if_pos (by omega)]
  obtain ⟨c2, q1, q2⟩ := xd_init (n0 := n0) (f0 := f0) (f1 := f1) hn (n1 + 1) 202 0 0 a2 c0 (by omega) (by omega) (fun j hj => by omega)
  rw [q1]
  exact xd_out hn0 hn hs ht n0 202 0 0 c2 c0 (by omega) (by omega) (fun k hk => by rw [ED_0]; exact q2 k hk)
end XD
theorem mn {A B C E d : Int} (e : E = min (A + d) (1 + min B C)) : (C + 1 ≥ A + d → B + 1 ≥ A + d → A + d = E) ∧ (C + 1 ≥ A + d → ¬ B + 1 ≥ A + d → B + 1 = E) ∧ (¬ C + 1 ≥ A + d → B + 1 ≥ C + 1 → C + 1 = E) ∧ (¬ C + 1 ≥ A + d → ¬ B + 1 ≥ C + 1 → B + 1 = E) := by
  refine ⟨fun _ _ => ?_, fun _ _ => ?_, fun _ _ => ?_, fun _ _ => ?_⟩ <;> omega
section MD
variable {p0 p1 : Int32} {n0 n1 : Nat} {a30 a31 : Nat → Int32} {s t : Nat → Int}
def FIL (s t : Nat → Int) (n1 i j : Nat) (a : Nat → Int32) : Prop := (∀ r c : Nat, r < i → c ≤ n1 → (a (20 * r + c)).toInt = ED s t r c) ∧ ∀ c : Nat, c < j → (a (20 * i + c)).toInt = ED s t i c
theorem i20 {x y : Int32} {i j : Nat} (hx : x.toInt = (i : Int)) (hy : y.toInt = (j : Int)) (hi : i ≤ 8) (hj : j ≤ 9) : ((20 : Int32) * x + y).toInt = ((20 * i + j : Nat) : Int) := by
  have c20 : (20 : Int32).toInt = 20 := by decide
  have m1 : ((20 : Int32) * x).toInt = 20 * (i : Int) := toInt_mul c20 hx rfl (by omega) (by omega)
  have m2 := toInt_add m1 hy (by omega) (by omega)
  omega
theorem FIL_up {i j : Nat} {a : Nat → Int32} {v : Int32} (h : FIL s t n1 i j a) (hv : v.toInt = ED s t i j) (hj : j ≤ n1) (hn : n1 ≤ 8) : FIL s t n1 i (j + 1) (upd a (20 * i + j) v) := by
  refine ⟨fun r c hr hc => ?_, fun c hc => ?_⟩
  · unfold upd
    rw [if_neg (by omega)]; exact h.1 r c hr hc
  · unfold upd
    by_cases w : c = j
    · rw [if_pos (by omega), w]; exact hv
    · rw [if_neg (by omega)]; exact h.2 c (by omega)
theorem md_in {self : Int32 → (Nat → Int32) → Int32 × (Nat → Int32)} {x2 : Int32} {i : Nat} (hn : n1 ≤ 8) (hp1 : p1.toInt = (n1 : Int)) (hi : i ≤ 8) (h2 : x2.toInt = (i : Int)) (hs : ∀ k, k < i → (a30 k).toInt = s k) (ht : ∀ j, j < n1 → (a31 j).toInt = t j) :
    ∀ (m g : Nat) (x13 : Int32) (j : Nat) (a : Nat → Int32), x13.toInt = (j : Int) → j + m = n1 + 1 → m < g → FIL s t n1 i j a → ∃ c, f_m12_fewest_j12 p1 a30 a31 x2 self g x13 a = self (x2 + Int32.ofInt 1) c ∧ FIL s t n1 i (n1 + 1) c := by
  intro m
  have e1 := c1
  induction m with
  | zero =>
    intro g x13 j a hx hk hg hF
    obtain ⟨g, rfl⟩ : ∃ w, g = w + 1 := ⟨g - 1, by omega⟩
    rw [S_m12_fewest_j12, if_pos (by omega)]
    exact ⟨a, rfl, by rw [show n1 + 1 = j by omega]; exact hF⟩
  | succ m ih =>
    intro g x13 j a hx hk hg hF
    obtain ⟨g, rfl⟩ : ∃ w, g = w + 1 := ⟨g - 1, by omega⟩
    have hx1 := toInt_add hx co1 (by omega) (by omega)
    have hz := toInt_add h2 hx (by omega) (by omega)
    have hx3 : (x13 + Int32.ofInt 1).toInt = ((j + 1 : Nat) : Int) := by omega
    have hm1 : j + 1 + m = n1 + 1 := by omega
    have hm2 : m < g := by omega
    have I0 := i20 h2 hx hi (by omega)
    rw [S_m12_fewest_j12, if_neg (by omega), nc I0]
    by_cases w : x2.toInt ≤ 0
    · rw [if_pos w]
      have i0 : i = 0 := by omega
      exact ih g (x13 + Int32.ofInt 1) (j + 1) _ hx3 hm1 hm2 (FIL_up hF (by rw [i0, ED_0]; omega) (by omega) hn)
    · rw [if_neg w]
      by_cases w2 : x13.toInt ≤ 0
      · rw [if_pos w2]
        have j0 : j = 0 := by omega
        exact ih g (x13 + Int32.ofInt 1) (j + 1) _ hx3 hm1 hm2 (FIL_up hF (by rw [j0, ED_n0]; omega) (by omega) hn)
      · rw [if_neg w2]
        obtain ⟨i, rfl⟩ : ∃ r, i = r + 1 := ⟨i - 1, by omega⟩
        obtain ⟨j, rfl⟩ : ∃ r, j = r + 1 := ⟨j - 1, by omega⟩
        have s1 := toInt_sub h2 e1 (by omega) (by omega)
        have s2 := toInt_sub hx e1 (by omega) (by omega)
        have s3 : (x2 - 1).toInt = (i : Int) := by omega
        have s4 : (x13 - 1).toInt = (j : Int) := by omega
        have I1 := i20 s3 hx (by omega) (by omega)
        have I2 := toInt_sub I1 e1 (by omega) (by omega)
        have I3 : ((20 : Int32) * (x2 - 1) + x13 - 1).toInt = ((20 * i + j : Nat) : Int) := by omega
        have I4 := toInt_sub I0 e1 (by omega) (by omega)
        have I5 : ((20 : Int32) * x2 + x13 - 1).toInt = ((20 * (i + 1) + j : Nat) : Int) := by omega
        have g1 := hF.1 i j (by omega) (by omega)
        have g2 := hF.1 i (j + 1) (by omega) (by omega)
        have g3 := hF.2 j (by omega)
        have b1 := ED_b (s := s) (t := t) i j
        have b2 := ED_b (s := s) (t := t) (i + 1) j
        have b3 := ED_b (s := s) (t := t) i (j + 1)
        have q1 := hs i (by omega)
        have q2 := ht j (by omega)
        have hjn : j + 1 ≤ n1 := by omega
        have hib : i ≤ 8 := by omega
        have hjb : j ≤ 9 := by omega
        rw [nc s3, nc s4, nc I3]
        clear I2 I4 I3 s1 s2
        have K : ∀ y : Int32, y.toInt = (if s i = t j then 0 else 1) → ∃ c, f_m12_fewest_j44 x2 x13 a (f_m12_fewest_j12 p1 a30 a31 x2 self g) y (a (20 * i + j)) = self (x2 + Int32.ofInt 1) c ∧ FIL s t n1 (i + 1) (n1 + 1) c := by
          intro y hy
          have hy01 : 0 ≤ y.toInt ∧ y.toInt ≤ 1 := by split at hy <;> omega
          have m1 := toInt_add g1 hy (by omega) (by split <;> omega)
          have m2 := toInt_add g2 e1 (by omega) (by omega)
          have m3 := toInt_add g3 e1 (by omega) (by omega)
          have fin : ∀ v : Int32, v.toInt = ED s t (i + 1) (j + 1) → ∃ c, f_m12_fewest_j12 p1 a30 a31 x2 self g (x13 + Int32.ofInt 1) (upd a (20 * (i + 1) + (j + 1)) v) = self (x2 + Int32.ofInt 1) c ∧ FIL s t n1 (i + 1) (n1 + 1) c :=
            fun v hv => ih g (x13 + Int32.ofInt 1) (j + 1 + 1) _ hx3 hm1 hm2 (FIL_up hF hv hjn hn)
          have e := ED_ss (s := s) (t := t) i j
          have M := mn e
          clear e b1 b2 b3 q1 q2 s3 s4 hx3 hm1 hm2 hF ih hs ht
          rw [E_m12_fewest_j44, nc I1, nc I5]
          by_cases w3 : (a (20 * i + (j + 1)) + 1).toInt ≥ (a (20 * i + j) + y).toInt
          · rw [if_pos w3, E_m12_fewest_j59, nc I0]
            by_cases w4 : (a (20 * (i + 1) + j) + 1).toInt ≥ (a (20 * i + j) + y).toInt
            · rw [if_pos w4]
              rw [m2, m1] at w3; rw [m3, m1] at w4
              exact fin _ (m1.trans (M.1 w3 w4))
            · rw [if_neg w4]
              rw [m2, m1] at w3; rw [m3, m1] at w4
              exact fin _ (m3.trans (M.2.1 w3 w4))
          · rw [if_neg w3, E_m12_fewest_j59, nc I0]
            by_cases w4 : (a (20 * (i + 1) + j) + 1).toInt ≥ (a (20 * i + (j + 1)) + 1).toInt
            · rw [if_pos w4]
              rw [m2, m1] at w3; rw [m3, m2] at w4
              exact fin _ (m2.trans (M.2.2.1 w3 w4))
            · rw [if_neg w4]
              rw [m2, m1] at w3; rw [m3, m2] at w4
              exact fin _ (m3.trans (M.2.2.2 w3 w4))
        by_cases w5 : (a30 i).toInt ≠ (a31 j).toInt
        · rw [if_pos w5]
          exact K 1 (by rw [if_neg (by rw [← q1, ← q2]; exact w5)]; exact e1)
        · rw [if_neg w5]
          exact K 0 (by rw [if_pos (by rw [← q1, ← q2]; exact Decidable.not_not.mp w5)]; exact c0)
theorem FIL_next {i : Nat} {a : Nat → Int32} (h : FIL s t n1 i (n1 + 1) a) : FIL s t n1 (i + 1) 0 a := by
  refine ⟨fun r c hr hc => ?_, fun c hc => absurd hc (Nat.not_lt_zero c)⟩
  by_cases w : r < i
  · exact h.1 r c w hc
  · have e : r = i := by omega
    subst e
    exact h.2 c (by omega)
theorem md_out (hn0 : n0 ≤ 8) (hn : n1 ≤ 8) (hp0 : p0.toInt = (n0 : Int)) (hp1 : p1.toInt = (n1 : Int)) (hs : ∀ k, k < n0 → (a30 k).toInt = s k) (ht : ∀ j, j < n1 → (a31 j).toInt = t j) : ∀ (m g : Nat) (x : Int32) (i : Nat) (a : Nat → Int32), x.toInt = (i : Int) → i + m = n0 + 1 → m < g → FIL s t n1 i 0 a → (f_m12_fewest_j1 p0 p1 a30 a31 g x a).1.toInt = ED s t n0 n1 := by
  intro m
  induction m with
  | zero =>
    intro g x i a hx hk hg hF
    obtain ⟨g, rfl⟩ : ∃ w, g = w + 1 := ⟨g - 1, by omega⟩
    have I0 := i20 hp0 hp1 hn0 (by omega)
    rw [S_m12_fewest_j1, if_pos (by omega), nc I0]
    exact hF.1 n0 n1 (by omega) (Nat.le_refl _)
  | succ m ih =>
    intro g x i a hx hk hg hF
    obtain ⟨g, rfl⟩ : ∃ w, g = w + 1 := ⟨g - 1, by omega⟩
    have hx1 := toInt_add hx co1 (by omega) (by omega)
    rw [S_m12_fewest_j1, if_neg (by omega)]
    obtain ⟨c, q1, q2⟩ := md_in (self := f_m12_fewest_j1 p0 p1 a30 a31 g) (s := s) (t := t) hn hp1 (by omega) hx (fun k hk2 => hs k (by omega)) ht (n1 + 1) 14 0 0 a c0 (by omega) (by omega) hF
    rw [q1]
    exact ih g (x + Int32.ofInt 1) (i + 1) c (by omega) (by omega) (by omega) (FIL_next q2)
theorem md_all {a32 : Nat → Int32} (hn0 : n0 ≤ 8) (hn : n1 ≤ 8) (hp0 : p0.toInt = (n0 : Int)) (hp1 : p1.toInt = (n1 : Int)) (hs : ∀ k, k < n0 → (a30 k).toInt = s k) (ht : ∀ j, j < n1 → (a31 j).toInt = t j) : (F_m12_fewest p0 p1 a30 a31 a32).1.toInt = ED s t n0 n1 := by
  rw [E_m12_fewest]
  exact md_out hn0 hn hp0 hp1 hs ht (n0 + 1) 14 0 0 a32 c0 (by omega) (by omega) ⟨fun r c hr _ => absurd hr (Nat.not_lt_zero r), fun c hc => absurd hc (Nat.not_lt_zero c)⟩
end MD
theorem md_copy {z25 z27 : Int32} {b4 b5 a32 : Nat → Int32} {A B : Nat} (hA : z25.toInt = (A : Int)) (hB : z27.toInt = (B : Int)) (hA2 : A < 180) (hB2 : B < 180) : ∀ (m g : Nat) (x : Int32) (k : Nat) (a30 a31 : Nat → Int32), x.toInt = (k : Int) → k + m = 8 → m < g → (∀ j, j < k → a30 j = b5 (8 * A + j) ∧ a31 j = b5 (8 * B + j)) →
    ∃ c30 c31, f_m12_differ_j36 b4 b5 a32 z25 z27 g x a30 a31 = ((F_m12_fewest (b4 A) (b4 B) c30 c31 a32).1, c30, c31, (F_m12_fewest (b4 A) (b4 B) c30 c31 a32).2) ∧ ∀ j, j < 8 → c30 j = b5 (8 * A + j) ∧ c31 j = b5 (8 * B + j) := by
  have c8 : (8 : Int32).toInt = 8 := by decide
  intro m
  induction m with
  | zero =>
    intro g x k a30 a31 hx hk hg hF
    obtain ⟨g, rfl⟩ : ∃ w, g = w + 1 := ⟨g - 1, by omega⟩
    rw [S_m12_differ_j36, if_pos (by omega), nc hA, nc hB]
    exact ⟨a30, a31, rfl, fun j hj => hF j (by omega)⟩
  | succ m ih =>
    intro g x k a30 a31 hx hk hg hF
    obtain ⟨g, rfl⟩ : ∃ w, g = w + 1 := ⟨g - 1, by omega⟩
    have hx1 := toInt_add hx co1 (by omega) (by omega)
    have m1 : ((8 : Int32) * z25).toInt = 8 * (A : Int) := toInt_mul c8 hA rfl (by omega) (by omega)
    have m2 : ((8 : Int32) * z25 + x).toInt = ((8 * A + k : Nat) : Int) := (toInt_add m1 hx (by omega) (by omega)).trans (by omega)
    have m3 : ((8 : Int32) * z27).toInt = 8 * (B : Int) := toInt_mul c8 hB rfl (by omega) (by omega)
    have m4 : ((8 : Int32) * z27 + x).toInt = ((8 * B + k : Nat) : Int) := (toInt_add m3 hx (by omega) (by omega)).trans (by omega)
    rw [S_m12_differ_j36, if_neg (by omega), nc hx, nc m2, nc m4]
    refine ih g (x + Int32.ofInt 1) (k + 1) _ _ (by omega) (by omega) (by omega) (fun j hj => ?_)
    unfold upd
    by_cases w : j = k
    · rw [if_pos w, if_pos w, w]; exact ⟨rfl, rfl⟩
    · rw [if_neg w, if_neg w]; exact hF j (by omega)
theorem R_differ {u0 u1 u2 i3 : Int32} {a2 a30 a31 a32 b4 b5 : Nat → Int32} {r9n : Nat → Nat} {r9c : Nat → Nat → Int32} (hv : 0 ≤ i3.toInt ∧ i3.toInt ≤ 60) (hR : RWS r9n r9c b4 b5) : (F_x11_differ u0 u1 u2 i3 a2 r9n r9c).1 = (F_m12_differ u0 u1 u2 i3 b4 b5 a30 a31 a32).1 := by
  rw [E_x11_differ, E_m12_differ]
  rcases xhas (u := u0) (i3 := i3) with ⟨h1, h⟩ | ⟨h1, h⟩
  · rcases mver (u := u0) (i2 := i3) hv.1 with ⟨_, g⟩ | ⟨g1, _⟩
    · rw [h, g, if_neg n10, if_neg n10]
      rcases xcop (u := u1) with ⟨k1, k⟩ | ⟨k1, k⟩
      · rcases mcop (u := u1) with ⟨_, l⟩ | ⟨l1, _⟩
        · rw [k, l, if_neg n10, if_neg n10]
          rcases xcop (u := u2) with ⟨k1', k'⟩ | ⟨k1', k'⟩
          · rcases mcop (u := u2) with ⟨_, l'⟩ | ⟨l1', _⟩
            · rw [k', l', if_pos y10, if_pos y10]
              obtain ⟨v, hv'⟩ : ∃ v : Nat, u0.toInt = (v : Int) := ⟨u0.toInt.toNat, by omega⟩
              obtain ⟨c, hc⟩ : ∃ c : Nat, u1.toInt = (c : Int) := ⟨u1.toInt.toNat, by omega⟩
              obtain ⟨d, hd⟩ : ∃ d : Nat, u2.toInt = (d : Int) := ⟨u2.toInt.toNat, by omega⟩
              obtain ⟨_, x1⟩ := idx3 hv' hc (by omega) (by omega)
              obtain ⟨_, x2⟩ := idx3 hv' hd (by omega) (by omega)
              have z1 := row_sz hR hv' hc (by omega) hv.2 (by omega)
              have z2 := row_sz hR hv' hd (by omega) hv.2 (by omega)
              obtain ⟨o1, o2⟩ := row_of hR hv' hc (by omega) hv.2 (by omega)
              obtain ⟨p1, p2⟩ := row_of hR hv' hd (by omega) hv.2 (by omega)
              have r1 := (hR (3 * v + c) (by omega)).1
              have r2 := (hR (3 * v + d) (by omega)).1
              rw [z1, z2, nc x1, nc x2]
              generalize F_x9_rowOf u0 u1 i3 r9n r9c = A at o1 o2 ⊢
              generalize F_x9_rowOf u0 u2 i3 r9n r9c = B at p1 p2 ⊢
              by_cases w1 : (b4 (3 * v + c)).toInt = 0
              · rw [if_pos w1, if_pos w1]
              · rw [if_neg w1, if_neg w1]
                by_cases w2 : (b4 (3 * v + d)).toInt ≠ 0
                · rw [if_pos w2, if_pos w2]
                  obtain ⟨c30, c31, q1, q2⟩ := md_copy (b4 := b4) (b5 := b5) (a32 := a32) x1 x2 (by omega) (by omega) 8 9 0 0 a30 a31 c0 (by omega) (by omega) (fun j hj => absurd hj (Nat.not_lt_zero j))
                  rw [q1]
                  have X := xd_all (n0 := A.1) (f0 := A.2) (n1 := B.1) (f1 := B.2) (a2 := a2) (s := fun k => (b5 (8 * (3 * v + c) + k)).toInt) (t := fun k => (b5 (8 * (3 * v + d) + k)).toInt) (by omega) (by omega) (fun i hi => by rw [o2 i (by omega)]) (fun j hj => by rw [p2 j (by omega)])
                  have Y := md_all (n0 := A.1) (n1 := B.1) (p0 := b4 (3 * v + c)) (p1 := b4 (3 * v + d)) (a30 := c30) (a31 := c31) (a32 := a32) (s := fun k => (b5 (8 * (3 * v + c) + k)).toInt) (t := fun k => (b5 (8 * (3 * v + d) + k)).toInt) (by omega) (by omega) o1.symm p1.symm (fun i hi => by rw [(q2 i (by omega)).1]) (fun j hj => by rw [(q2 j (by omega)).2])
                  exact eq_of_toInt (X.trans Y.symm)
                · rw [if_neg w2, if_neg w2]
            · exact absurd k1' l1'
          · rcases mcop (u := u2) with ⟨l1', _⟩ | ⟨_, l'⟩
            · exact absurd l1' k1'
            · rw [k', l', if_neg n00, if_neg n00]
        · exact absurd k1 l1
      · rcases mcop (u := u1) with ⟨l1, _⟩ | ⟨_, l⟩
        · exact absurd l1 k1
        · rw [k, l, if_pos y00, if_pos y00]
    · exact absurd h1 g1
  · rcases mver (u := u0) (i2 := i3) hv.1 with ⟨g1, _⟩ | ⟨_, g⟩
    · exact absurd g1 h1
    · rw [h, g, if_pos y00, if_pos y00]
