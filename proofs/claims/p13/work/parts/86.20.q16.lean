/-! ASKS, on both sides: the last clause in force -/
def LRS (kind subj i9 : Int32) (b18 b19 b20 : Nat → Int32) (r : Int32) : Prop := r.toInt = -1 ∨ ∃ i j : Nat, (i : Int) < i9.toInt ∧ (j : Int) < (b18 i).toInt ∧ r.toInt = ((16 * i + j : Nat) : Int) ∧ (b19 (16 * i + j)).toInt = kind.toInt ∧ (kind.toInt = 118 → (b20 (16 * i + j)).toInt = subj.toInt)
theorem xnum1 {u : Int32} (h : 0 ≤ u.toInt ∧ u.toInt < 320) : F_x2_isNumber u = 1 := by
  rw [E_x2_isNumber, if_neg (by omega), if_neg (by omega)]
theorem cl_of {x y : Int32} {i j : Nat} (hx : x.toInt = (i : Int)) (hy : y.toInt = (j : Int)) (hi : i < 20) (hj : j < 16) : (F_x2_clauseOf x y).toInt = ((16 * i + j : Nat) : Int) := by
  have c16 : (16 : Int32).toInt = 16 := by decide
  have e : F_x2_clauseOf x y = x * 16 + y := rfl
  have m1 : (x * (16 : Int32)).toInt = (i : Int) * 16 := toInt_mul hx c16 rfl (by omega) (by omega)
  have m2 := toInt_add m1 hy (by omega) (by omega)
  rw [e]; omega
theorem dec_of {x : Int32} {m : Nat} (h : x.toInt = (m : Int)) (hm : m < 1000000) : (x + Int32.ofInt (-1)).toInt = (m : Int) - 1 := by
  have cm1 : (Int32.ofInt (-1)).toInt = -1 := by decide
  exact (toInt_add h cm1 (by omega) (by omega)).trans (by omega)
section LAST
variable {v day kind subj i6 i9 i20 : Int32} {a18 a19 a20 a21 a22 a23 a24 a25 b2 b8 b15 b16 b17 b18 b19 b20 b21 b22 : Nat → Int32}
theorem in_loop (hk : kind.toInt = 118 ∨ ((kind.toInt = 107 ∨ kind.toInt = 111) ∧ subj.toInt = 0)) {self self' : Int32 → Int32} {x : Int32} {i : Nat} (hx : x.toInt = (i : Int)) (hi : i < 20) (hi9 : (i : Int) < i9.toInt) (h18 : (b18 i).toInt ≤ 16)
    (hC : ∀ c : Nat, 16 * i ≤ c → (c : Int) < 16 * (i : Int) + (b18 i).toInt → CLR a22 a23 a24 a25 b19 b20 b21 b22 c)
    (hS : self (x + Int32.ofInt (-1)) = self' (x + Int32.ofInt (-1)) ∧ LRS kind subj i9 b18 b19 b20 (self' (x + Int32.ofInt (-1)))) :
    ∀ (m f g : Nat) (y z : Int32), y.toInt = (m : Int) - 1 → z.toInt = 16 * (i : Int) + m - 1 → (m : Int) ≤ (b18 i).toInt → m < f → m < g →
    f_x6_lastInForce_j27 kind subj a22 a23 x self f y = f_m12_lastOf_j21 kind subj b19 b20 x self' g z ∧ LRS kind subj i9 b18 b19 b20 (f_m12_lastOf_j21 kind subj b19 b20 x self' g z) := by
  have c16 : (16 : Int32).toInt = 16 := by decide
  have m3 : ((16 : Int32) * x).toInt = 16 * (i : Int) := toInt_mul c16 hx rfl (by omega) (by omega)
  intro m
  induction m with
  | zero =>
    intro f g y z hy hz _ hf hg
    obtain ⟨f, rfl⟩ : ∃ w, f = w + 1 := ⟨f - 1, by omega⟩
    obtain ⟨g, rfl⟩ : ∃ w, g = w + 1 := ⟨g - 1, by omega⟩
    rw [S_x6_lastInForce_j27, S_m12_lastOf_j21, if_pos (show y.toInt < 0 by omega), if_pos (show z.toInt < ((16 : Int32) * x).toInt by omega)]
    exact hS
  | succ m ih =>
    intro f g y z hy hz hm hf hg
    obtain ⟨f, rfl⟩ : ∃ w, f = w + 1 := ⟨f - 1, by omega⟩
    obtain ⟨g, rfl⟩ : ∃ w, g = w + 1 := ⟨g - 1, by omega⟩
    have hy0 : y.toInt = (m : Int) := by omega
    have hz0 : z.toInt = ((16 * i + m : Nat) : Int) := by omega
    have hm16 : m < 16 := by omega
    have hC1 : 16 * i ≤ 16 * i + m := by omega
    have hC2 : ((16 * i + m : Nat) : Int) < 16 * (i : Int) + (b18 i).toInt := by omega
    have hy2 : ¬ y.toInt < 0 := by omega
    have hz2 : ¬ z.toInt < ((16 : Int32) * x).toInt := by omega
    have hz3 : 0 ≤ z.toInt ∧ z.toInt < 320 := by omega
    have hm18 : (m : Int) < (b18 i).toInt := by omega
    have hmf : m < f := by omega
    have hmg : m < g := by omega
    have hmb : (m : Int) ≤ (b18 i).toInt := by omega
    have IH := ih f g (y + Int32.ofInt (-1)) (z + Int32.ofInt (-1)) (dec_of hy0 (by omega)) ((dec_of hz0 (by omega)).trans (by omega)) hmb hmf hmg
    obtain ⟨d1, d2, d3, d4, _⟩ := hC (16 * i + m) hC1 hC2
    have ez : F_x2_clauseOf x y = z := eq_of_toInt ((cl_of hx hy0 hi hm16).trans hz0.symm)
    rw [S_x6_lastInForce_j27, S_m12_lastOf_j21, if_neg hy2, if_neg hz2, ez, E_x2_isOf, E_x2_subject, xnum1 hz3, if_neg n10, if_neg n10, nc hz0]
    clear ez hC hS ih hz hy m3 c16 hy2 hz2
    by_cases w : (b19 (16 * i + m)).toInt ≠ kind.toInt
    · rw [if_pos (show (a22 (16 * i + m)).toInt ≠ kind.toInt by omega), if_pos y00, if_pos w]
      exact IH
    · have w' : (b19 (16 * i + m)).toInt = kind.toInt := by omega
      rw [if_neg (show ¬ (a22 (16 * i + m)).toInt ≠ kind.toInt by omega), if_neg n10, if_neg w]
      by_cases k : kind.toInt ≠ 118
      · rw [if_pos k]
        have e0 : (a23 (16 * i + m)).toInt = 0 := by
          rcases hk with h | ⟨h | h, _⟩
          · exact absurd h k
          · exact (d2 (by omega)).1
          · exact (d4 (by omega)).1
        rw [if_neg (show ¬ (a23 (16 * i + m)).toInt ≠ subj.toInt by omega)]
        exact ⟨rfl, Or.inr ⟨i, m, hi9, hm18, hz0, w', fun q => absurd q k⟩⟩
      · have e0 := (d3 (by omega)).1
        rw [if_neg k]
        by_cases s : (b20 (16 * i + m)).toInt ≠ subj.toInt
        · rw [if_pos (show (a23 (16 * i + m)).toInt ≠ subj.toInt by omega), if_pos s]
          exact IH
        · rw [if_neg (show ¬ (a23 (16 * i + m)).toInt ≠ subj.toInt by omega), if_neg s]
          exact ⟨rfl, Or.inr ⟨i, m, hi9, hm18, hz0, w', fun _ => by omega⟩⟩
theorem last_loop (hk : kind.toInt = 118 ∨ ((kind.toInt = 107 ∨ kind.toInt = 111) ∧ subj.toInt = 0)) (h9 : i9.toInt ≤ 20) (hF : FRC v day i6 i9 b2 b8 b15 b16 b17 i20) (hL : LAW i9 a18 a19 a20 a21 a22 a23 a24 a25 b15 b16 b17 b18 b19 b20 b21 b22) :
    ∀ (m f g : Nat) (x : Int32), x.toInt = (m : Int) - 1 → (m : Int) ≤ i9.toInt → m < f → m < g →
    f_x6_lastInForce_j7 kind subj i9 i20 a21 a22 a23 f x = f_m12_lastOf_j2 kind subj v day i6 b2 b8 b15 b16 b17 b18 b19 b20 g x ∧ LRS kind subj i9 b18 b19 b20 (f_m12_lastOf_j2 kind subj v day i6 b2 b8 b15 b16 b17 b18 b19 b20 g x) := by
  have c16 : (16 : Int32).toInt = 16 := by decide
  have e1 := c1
  intro m
  induction m with
  | zero =>
    intro f g x hx _ hf hg
    obtain ⟨f, rfl⟩ : ∃ w, f = w + 1 := ⟨f - 1, by omega⟩
    obtain ⟨g, rfl⟩ : ∃ w, g = w + 1 := ⟨g - 1, by omega⟩
    rw [S_x6_lastInForce_j7, S_m12_lastOf_j2, if_pos (show x.toInt < 0 by omega), if_pos (show x.toInt < 0 by omega)]
    exact ⟨rfl, Or.inl (by decide)⟩
  | succ m ih =>
    intro f g x hx hm hf hg
    obtain ⟨f, rfl⟩ : ∃ w, f = w + 1 := ⟨f - 1, by omega⟩
    obtain ⟨g, rfl⟩ : ∃ w, g = w + 1 := ⟨g - 1, by omega⟩
    have hx0 : x.toInt = (m : Int) := by omega
    have IH := ih f g (x + Int32.ofInt (-1)) (dec_of hx0 (by omega)) (by omega) (by omega) (by omega)
    have F := frc_at hF h9 (y := x) (by omega) (by omega)
    obtain ⟨_, _, _, l4, l5, l6⟩ := hL m (by omega)
    rw [S_x6_lastInForce_j7, S_m12_lastOf_j2, if_neg (show ¬ x.toInt < 0 by omega), if_neg (show ¬ x.toInt < 0 by omega)]
    by_cases w : (F_m12_isInForce x v day i6 b2 b8 b15 b16 b17).toInt ≠ 0
    · rw [if_pos (F.mpr w), if_pos w]
      have ec : F_x2_clausesOf x i9 a21 = b18 m := by
        rw [E_x2_clausesOf, if_neg (by omega), if_neg (by omega), nc hx0, l4]
      have m3 : ((16 : Int32) * x).toInt = 16 * (m : Int) := toInt_mul c16 hx0 rfl (by omega) (by omega)
      obtain ⟨q, hq⟩ : ∃ q : Nat, (b18 m).toInt = (q : Int) := ⟨(b18 m).toInt.toNat, by omega⟩
      have m4 := toInt_add m3 hq (by omega) (by omega)
      have m5 := toInt_sub m4 e1 (by omega) (by omega)
      have m6 := toInt_sub hq e1 (by omega) (by omega)
      rw [ec, nc hx0]
      exact in_loop hk hx0 (by omega) (by omega) l5.2 l6 IH q 17 17 _ _ m6 m5 (by omega) (by omega) (by omega)
    · rw [if_neg (fun z => w (F.mp z)), if_neg w]
      exact IH
theorem last_of (hk : kind.toInt = 118 ∨ ((kind.toInt = 107 ∨ kind.toInt = 111) ∧ subj.toInt = 0)) (h9 : 0 ≤ i9.toInt ∧ i9.toInt ≤ 20) (hF : FRC v day i6 i9 b2 b8 b15 b16 b17 i20) (hL : LAW i9 a18 a19 a20 a21 a22 a23 a24 a25 b15 b16 b17 b18 b19 b20 b21 b22) :
    F_x6_lastInForce kind subj i9 i20 a21 a22 a23 = F_m12_lastOf kind subj v day i6 i9 b2 b8 b15 b16 b17 b18 b19 b20 ∧ LRS kind subj i9 b18 b19 b20 (F_m12_lastOf kind subj v day i6 i9 b2 b8 b15 b16 b17 b18 b19 b20) := by
  have e : (i9 - 1).toInt = i9.toInt - 1 := by have := toInt_sub (x := i9) rfl c1 (by omega) (by omega); omega
  rw [E_x6_lastInForce, E_m12_lastOf]
  exact last_loop hk h9.2 hF hL i9.toInt.toNat 21 21 (i9 - 1) (by omega) (by omega) (by omega) (by omega)
end LAST
