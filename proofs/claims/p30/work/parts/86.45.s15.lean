/-! CHANGES, on both sides -/
theorem E_x11_changes {u0 : Int32} {u1 : Int32} {u2 : Int32} {i1 : Int32} {i3 : Int32} {i10 : Int32} {i11 : Int32} {a2 : Nat → Int32} {a30 : Nat → Int32} {a31 : Nat → Int32} {a32 : Nat → Int32} {ogn : Nat → Nat → Nat} {ogc : Nat → Nat → Nat → Int32} : F_x11_changes u0 u1 u2 i1 i3 i10 i11 a2 a30 a31 a32 ogn ogc = if (F_x9_has u0 i3).toInt = 0 then ((-1 : Int32), a2) else (if (F_x11_isPastDay u1 i1).toInt = 0 then ((-1 : Int32), a2) else (if (F_x11_isPastDay u2 i1).toInt ≠ 0 then ((F_x11_distance (F_x11_wordsFixedThen u0 u1 i10 i11 a30 a31 a32 ogn ogc).1 (F_x11_wordsFixedThen u0 u1 i10 i11 a30 a31 a32 ogn ogc).2 (F_x11_wordsFixedThen u0 u2 i10 i11 a30 a31 a32 ogn ogc).1 (F_x11_wordsFixedThen u0 u2 i10 i11 a30 a31 a32 ogn ogc).2 a2).1, (F_x11_distance (F_x11_wordsFixedThen u0 u1 i10 i11 a30 a31 a32 ogn ogc).1 (F_x11_wordsFixedThen u0 u1 i10 i11 a30 a31 a32 ogn ogc).2 (F_x11_wordsFixedThen u0 u2 i10 i11 a30 a31 a32 ogn ogc).1 (F_x11_wordsFixedThen u0 u2 i10 i11 a30 a31 a32 ogn ogc).2 a2).2) else ((-1 : Int32), a2))) := rfl
theorem E_x11_wordsFixedThen {u0 : Int32} {u1 : Int32} {i10 : Int32} {i11 : Int32} {a30 : Nat → Int32} {a31 : Nat → Int32} {a32 : Nat → Int32} {ogn : Nat → Nat → Nat} {ogc : Nat → Nat → Nat → Int32} : F_x11_wordsFixedThen u0 u1 i10 i11 a30 a31 a32 ogn ogc = if (F_x8_at (F_x8_fixedThen u0 u1 i11 a30 a31 a32) i10) = 0 then (0, z0) else ((F_x7_wordRow ((F_x8_at (F_x8_fixedThen u0 u1 i11 a30 a31 a32) i10) - 1) ogn ogc).1, (F_x7_wordRow ((F_x8_at (F_x8_fixedThen u0 u1 i11 a30 a31 a32) i10) - 1) ogn ogc).2) := rfl
theorem E_x7_wordRow {nt : Nat} {ogn : Nat → Nat → Nat} {ogc : Nat → Nat → Nat → Int32} : F_x7_wordRow nt ogn ogc = ((ogn 4 nt), (ogc 4 nt)) := rfl
theorem E_m12_changes {p0 : Int32} {p1 : Int32} {p2 : Int32} {i1 : Int32} {i2 : Int32} {i18 : Int32} {a30 : Nat → Int32} {a31 : Nat → Int32} {a32 : Nat → Int32} {a40 : Nat → Int32} {a41 : Nat → Int32} {a51 : Nat → Int32} {a52 : Nat → Int32} {a53 : Nat → Int32} : F_m12_changes p0 p1 p2 i1 i2 i18 a30 a31 a32 a40 a41 a51 a52 a53 = if (F_m12_isVerse p0 i2).toInt = 0 then ((-1 : Int32), a30, a31, a32) else (if (F_m12_lies p1 (0 : Int32) i1).toInt = 0 then ((-1 : Int32), a30, a31, a32) else (if (F_m12_lies p2 (0 : Int32) i1).toInt ≠ 0 then f_m12_changes_j34 a32 a40 a41 (F_m12_fixedAt p0 p1 i18 a51 a52 a53) (F_m12_fixedAt p0 p2 i18 a51 a52 a53) 13 (0 : Int32) a30 a31 else ((-1 : Int32), a30, a31, a32))) := rfl
theorem S_m12_changes_j34 {a32 : Nat → Int32} {a40 : Nat → Int32} {a41 : Nat → Int32} {v_24 : Int32} {v_29 : Int32} {n_ : Nat} {x_35} {a30_37} {a31_38} : f_m12_changes_j34 a32 a40 a41 v_24 v_29 (n_ + 1) x_35 a30_37 a31_38 = if x_35.toInt ≥ 12 then (if v_24.toInt ≠ (-1) then (if v_29.toInt ≠ (-1) then ((F_m12_fewest (a40 v_24.toNatClampNeg) (a40 v_29.toNatClampNeg) a30_37 a31_38 a32).1, a30_37, a31_38, (F_m12_fewest (a40 v_24.toNatClampNeg) (a40 v_29.toNatClampNeg) a30_37 a31_38 a32).2) else ((F_m12_fewest (a40 v_24.toNatClampNeg) (0 : Int32) a30_37 a31_38 a32).1, a30_37, a31_38, (F_m12_fewest (a40 v_24.toNatClampNeg) (0 : Int32) a30_37 a31_38 a32).2)) else (if v_29.toInt ≠ (-1) then ((F_m12_fewest (0 : Int32) (a40 v_29.toNatClampNeg) a30_37 a31_38 a32).1, a30_37, a31_38, (F_m12_fewest (0 : Int32) (a40 v_29.toNatClampNeg) a30_37 a31_38 a32).2) else ((F_m12_fewest (0 : Int32) (0 : Int32) a30_37 a31_38 a32).1, a30_37, a31_38, (F_m12_fewest (0 : Int32) (0 : Int32) a30_37 a31_38 a32).2))) else (if v_24.toInt ≠ (-1) then f_m12_changes_j82 a41 v_29 x_35 a30_37 a31_38 (f_m12_changes_j34 a32 a40 a41 v_24 v_29 n_) (a41 (((12 : Int32) * v_24) + x_35).toNatClampNeg) x_35 else (f_m12_changes_j82 a41 v_29 x_35 a30_37 a31_38 (f_m12_changes_j34 a32 a40 a41 v_24 v_29 n_) (0 : Int32) x_35)) := rfl
theorem E_m12_changes_j82 {a41 : Nat → Int32} {v_29 : Int32} {x_35 : Int32} {a30_37 : Nat → Int32} {a31_38 : Nat → Int32} {self_J_34 : Int32 → (Nat → Int32) → (Nat → Int32) → Int32 × (Nat → Int32) × (Nat → Int32) × (Nat → Int32)} {y_83 : Int32} {y_85 : Int32} : f_m12_changes_j82 a41 v_29 x_35 a30_37 a31_38 self_J_34 y_83 y_85 = if v_29.toInt ≠ (-1) then self_J_34 (x_35 + Int32.ofInt 1) (upd a30_37 y_85.toNatClampNeg y_83) (upd a31_38 x_35.toNatClampNeg (a41 (((12 : Int32) * v_29) + x_35).toNatClampNeg)) else (self_J_34 (x_35 + Int32.ofInt 1) (upd a30_37 y_85.toNatClampNeg y_83) (upd a31_38 x_35.toNatClampNeg (0 : Int32))) := rfl
theorem ft_rng {u d : Int32} {N : Nat} {a30 a31 a32 : Nat → Int32} {P : Int32 → Prop} (hN : N ≤ 1024) (h0 : P (-1 : Int32)) (h : ∀ t : Nat, t < N → P (a32 t)) : ∀ (m f : Nat) (x : Int32), x.toInt = (m : Int) - 1 → m ≤ N → m < f → P (f_x8_fixedThen_j2 u d a30 a31 a32 f x) := by
  intro m
  induction m with
  | zero =>
    intro f x hx _ hf
    obtain ⟨f, rfl⟩ : ∃ w, f = w + 1 := ⟨f - 1, by omega⟩
    rw [S_x8_fixedThen_j2, if_pos (show x.toInt < 0 by omega)]
    exact h0
  | succ m ih =>
    intro f x hx hm hf
    obtain ⟨f, rfl⟩ : ∃ w, f = w + 1 := ⟨f - 1, by omega⟩
    have hx2 : x.toInt = (m : Int) := by omega
    have hz : (x + Int32.ofInt (-1)).toInt = (m : Int) - 1 := by
      have := toInt_add hx2 scm1 (by omega) (by omega)
      omega
    have IH := ih f (x + Int32.ofInt (-1)) hz (by omega) (by omega)
    rw [S_x8_fixedThen_j2, if_neg (show ¬ x.toInt < 0 by omega), nc hx2]
    by_cases w : (a30 m).toInt ≠ u.toInt
    · rw [if_pos w]; exact IH
    · rw [if_neg w]
      by_cases w2 : (a31 m).toInt > d.toInt
      · rw [if_pos w2]; exact IH
      · rw [if_neg w2]; exact h m (by omega)
theorem xpd {u i1 : Int32} : ((0 ≤ u.toInt ∧ u.toInt ≤ i1.toInt) ∧ F_x11_isPastDay u i1 = 1) ∨ (¬ (0 ≤ u.toInt ∧ u.toInt ≤ i1.toInt) ∧ F_x11_isPastDay u i1 = 0) := by
  rw [E_x11_isPastDay]
  by_cases h : u.toInt < 0
  · rw [if_pos h]; exact Or.inr ⟨by omega, rfl⟩
  · rw [if_neg h]
    by_cases g : u.toInt > i1.toInt
    · rw [if_pos g]; exact Or.inr ⟨by omega, rfl⟩
    · rw [if_neg g]; exact Or.inl ⟨by omega, rfl⟩
/-- the words of a RENDERING, or none -/
def WSO (b40 b41 : Nat → Int32) (z NA : Int32) (A : Nat → Int32) : Prop := (z.toInt = -1 ∧ NA = 0 ∧ ∀ j, A j = 0) ∨ (∃ r : Nat, r < 200 ∧ z.toInt = (r : Int) ∧ NA = b40 r ∧ ∀ j, A j = b41 (12 * r + j))
theorem wf_of {u d i10 i11 j18 : Int32} {a30 a31 a32 b33 b34 b36 b37 b38 b39 b40 b41 b42 b51 b52 b53 : Nat → Int32} {og : Nat → Nat → Int32} {ogn : Nat → Nat → Nat} {ogc : Nat → Nat → Nat → Int32} (h10 : 0 ≤ i10.toInt ∧ i10.toInt ≤ 200) (hE : TEL i10 i11 j18 a30 a31 a32 b51 b52 b53) (hC : RNC i10 og ogn ogc b33 b34 b36 b37 b38 b39 b40 b41 b42) :
    ∃ (NA : Int32) (A : Nat → Int32), (F_x11_wordsFixedThen u d i10 i11 a30 a31 a32 ogn ogc).1 ≤ 12 ∧ NA.toInt = ((F_x11_wordsFixedThen u d i10 i11 a30 a31 a32 ogn ogc).1 : Int) ∧ (∀ i, i < (F_x11_wordsFixedThen u d i10 i11 a30 a31 a32 ogn ogc).1 → (F_x11_wordsFixedThen u d i10 i11 a30 a31 a32 ogn ogc).2 i = A i) ∧ WSO b40 b41 (F_x8_fixedThen u d i11 a30 a31 a32) NA A := by
  obtain ⟨-, hb, ht⟩ := hE
  have e1 : (i11 - (1 : Int32)).toInt = ((i11.toInt.toNat : Nat) : Int) - 1 := by
    have := toInt_sub (x := i11) rfl c1 (by omega) (by omega)
    omega
  have R := ft_rng (u := u) (d := d) (a30 := a30) (a31 := a31) (P := fun z => z.toInt = -1 ∨ (0 ≤ z.toInt ∧ z.toInt < i10.toInt)) (N := i11.toInt.toNat) (a32 := a32) (by omega) (Or.inl sm1) (fun t h => by rw [(ht t (by omega)).2.2.1]; exact (ht t (by omega)).2.2.2) i11.toInt.toNat 1025 _ e1 (Nat.le_refl _) (by omega)
  rw [E_x11_wordsFixedThen]
  rw [← E_x8_fixedThen] at R
  have R : (F_x8_fixedThen u d i11 a30 a31 a32).toInt = -1 ∨ (0 ≤ (F_x8_fixedThen u d i11 a30 a31 a32).toInt ∧ (F_x8_fixedThen u d i11 a30 a31 a32).toInt < i10.toInt) := R
  generalize F_x8_fixedThen u d i11 a30 a31 a32 = z at R ⊢
  rcases xat (u := z) (i10 := i10) with ⟨a1, a⟩ | ⟨r, a1, a2, a⟩
  · rw [a, if_pos rfl]
    exact ⟨0, fun _ => 0, Nat.zero_le _, (by show (0 : Int32).toInt = ((0 : Nat) : Int); exact c0), fun i hi => absurd hi (Nat.not_lt_zero i), Or.inl ⟨by omega, rfl, fun _ => rfl⟩⟩
  · rw [a, if_neg (Nat.succ_ne_zero r), Nat.add_sub_cancel, E_x7_wordRow]
    obtain ⟨-, -, w1, -, w3, w4⟩ := hC r a2
    exact ⟨b40 r, fun j => b41 (12 * r + j), w3, w1, fun i hi => (w4 i hi).1, Or.inr ⟨r, by omega, a1, rfl, fun _ => rfl⟩⟩
theorem mc_copy {zA zB NA NB : Int32} {A B b32 b40 b41 : Nat → Int32} (hA : WSO b40 b41 zA NA A) (hB : WSO b40 b41 zB NB B) : ∀ (m g k : Nat) (x : Int32) (a30 a31 : Nat → Int32), x.toInt = (k : Int) → k + m = 12 → m < g → (∀ j, j < k → a30 j = A j ∧ a31 j = B j) →
    ∃ c30 c31 : Nat → Int32, (f_m12_changes_j34 b32 b40 b41 zA zB g x a30 a31).1 = (F_m12_fewest NA NB c30 c31 b32).1 ∧ ∀ j, j < 12 → c30 j = A j ∧ c31 j = B j := by
  intro m
  induction m with
  | zero =>
    intro g k x a30 a31 hx hk hg hF
    obtain ⟨g, rfl⟩ : ∃ w, g = w + 1 := ⟨g - 1, by omega⟩
    refine ⟨a30, a31, ?_, fun j hj => hF j (by omega)⟩
    rw [S_m12_changes_j34, if_pos (show x.toInt ≥ 12 by omega)]
    rcases hA with ⟨p1, p2, -⟩ | ⟨r, p0, p1, p2, -⟩
    · rw [if_neg (show ¬ zA.toInt ≠ -1 by omega), p2]
      rcases hB with ⟨q1, q2, -⟩ | ⟨q, q0, q1, q2, -⟩
      · rw [if_neg (show ¬ zB.toInt ≠ -1 by omega), q2]
      · rw [if_pos (show zB.toInt ≠ -1 by omega), nc q1, q2]
    · rw [if_pos (show zA.toInt ≠ -1 by omega), nc p1, p2]
      rcases hB with ⟨q1, q2, -⟩ | ⟨q, q0, q1, q2, -⟩
      · rw [if_neg (show ¬ zB.toInt ≠ -1 by omega), q2]
      · rw [if_pos (show zB.toInt ≠ -1 by omega), nc q1, q2]
  | succ m ih =>
    intro g k x a30 a31 hx hk hg hF
    obtain ⟨g, rfl⟩ : ∃ w, g = w + 1 := ⟨g - 1, by omega⟩
    have hz : (x + Int32.ofInt 1).toInt = ((k + 1 : Nat) : Int) := by
      have := toInt_add hx co1 (by omega) (by omega)
      omega
    have fin := ih g (k + 1) (x + Int32.ofInt 1) (upd a30 k (A k)) (upd a31 k (B k)) hz (by omega) (by omega) (fun j hj => by
      by_cases e : j = k
      · rw [e, upd_s, upd_s]; exact ⟨rfl, rfl⟩
      · rw [upd_n e, upd_n e]; exact hF j (by omega))
    rw [S_m12_changes_j34, if_neg (show ¬ x.toInt ≥ 12 by omega)]
    have eB : ∀ y : Int32, f_m12_changes_j82 b41 zB x a30 a31 (f_m12_changes_j34 b32 b40 b41 zA zB g) y x = f_m12_changes_j34 b32 b40 b41 zA zB g (x + Int32.ofInt 1) (upd a30 k y) (upd a31 k (B k)) := by
      intro y
      rw [E_m12_changes_j82, nc hx]
      rcases hB with ⟨q1, -, q3⟩ | ⟨q, q0, q1, -, q3⟩
      · rw [if_neg (show ¬ zB.toInt ≠ -1 by omega), q3 k]
      · rw [if_pos (show zB.toInt ≠ -1 by omega), ix12 q1 hx q0 (by omega), q3 k]
    rw [eB, eB]
    rcases hA with ⟨p1, -, p3⟩ | ⟨r, p0, p1, -, p3⟩
    · rw [if_neg (show ¬ zA.toInt ≠ -1 by omega)]
      rw [p3 k] at fin
      exact fin
    · rw [if_pos (show zA.toInt ≠ -1 by omega), ix12 p1 hx p0 (by omega)]
      rw [p3 k] at fin
      exact fin
theorem R_changes {u0 u1 u2 i1 i3 i10 i11 j18 : Int32} {a2 a30 a31 a32 b30 b31 b32 b33 b34 b36 b37 b38 b39 b40 b41 b42 b51 b52 b53 : Nat → Int32} {og : Nat → Nat → Int32} {ogn : Nat → Nat → Nat} {ogc : Nat → Nat → Nat → Int32} (h3 : 0 ≤ i3.toInt ∧ i3.toInt ≤ 60) (h10 : 0 ≤ i10.toInt ∧ i10.toInt ≤ 200) (hE : TEL i10 i11 j18 a30 a31 a32 b51 b52 b53) (hC : RNC i10 og ogn ogc b33 b34 b36 b37 b38 b39 b40 b41 b42) :
    (F_x11_changes u0 u1 u2 i1 i3 i10 i11 a2 a30 a31 a32 ogn ogc).1 = (F_m12_changes u0 u1 u2 i1 i3 j18 b30 b31 b32 b40 b41 b51 b52 b53).1 := by
  rw [E_x11_changes, E_m12_changes, ← ft_of (u := u0) (d := u1) hE, ← ft_of (u := u0) (d := u2) hE]
  rcases xhas (u := u0) (i3 := i3) with ⟨h1, h⟩ | ⟨h1, h⟩
  · rcases mver (u := u0) (i2 := i3) h3.1 with ⟨_, g⟩ | ⟨g1, _⟩
    · rw [h, g, if_neg n10, if_neg n10]
      rcases xpd (u := u1) (i1 := i1) with ⟨k1, k⟩ | ⟨k1, k⟩
      · rcases mlie (u := u1) (a := 0) (b := i1) c0 rfl with ⟨_, l⟩ | ⟨l1, _⟩
        · rw [k, l, if_neg n10, if_neg n10]
          rcases xpd (u := u2) (i1 := i1) with ⟨k1', k'⟩ | ⟨k1', k'⟩
          · rcases mlie (u := u2) (a := 0) (b := i1) c0 rfl with ⟨_, l'⟩ | ⟨l1', _⟩
            · rw [k', l', if_pos y10, if_pos y10]
              obtain ⟨NA, A, s1, s2, s3, s4⟩ := wf_of (u := u0) (d := u1) h10 hE hC
              obtain ⟨NB, B, t1, t2, t3, t4⟩ := wf_of (u := u0) (d := u2) h10 hE hC
              obtain ⟨c30, c31, q1, q2⟩ := mc_copy (b32 := b32) s4 t4 12 13 0 (0 : Int32) b30 b31 c0 rfl (by omega) (fun j hj => absurd hj (Nat.not_lt_zero j))
              rw [q1]
              generalize F_x11_wordsFixedThen u0 u1 i10 i11 a30 a31 a32 ogn ogc = P at s1 s2 s3 ⊢
              generalize F_x11_wordsFixedThen u0 u2 i10 i11 a30 a31 a32 ogn ogc = Q at t1 t2 t3 ⊢
              have X := xd_all (n0 := P.1) (f0 := P.2) (n1 := Q.1) (f1 := Q.2) (a2 := a2) (s := fun k => (A k).toInt) (t := fun k => (B k).toInt) s1 t1 (fun i hi => by rw [s3 i hi]) (fun j hj => by rw [t3 j hj])
              have Y := md_all (n0 := P.1) (n1 := Q.1) (p0 := NA) (p1 := NB) (a30 := c30) (a31 := c31) (a32 := b32) (s := fun k => (A k).toInt) (t := fun k => (B k).toInt) s1 t1 s2 t2 (fun i hi => by rw [(q2 i (by omega)).1]) (fun j hj => by rw [(q2 j (by omega)).2])
              exact eq_of_toInt (X.trans Y.symm)
            · exact absurd k1' l1'
          · rcases mlie (u := u2) (a := 0) (b := i1) c0 rfl with ⟨l1', _⟩ | ⟨_, l'⟩
            · exact absurd l1' k1'
            · rw [k', l', if_neg n00, if_neg n00]
        · exact absurd k1 l1
      · rcases mlie (u := u1) (a := 0) (b := i1) c0 rfl with ⟨l1, _⟩ | ⟨_, l⟩
        · exact absurd l1 k1
        · rw [k, l, if_pos y00, if_pos y00]
    · exact absurd h1 g1
  · rcases mver (u := u0) (i2 := i3) h3.1 with ⟨g1, _⟩ | ⟨_, g⟩
    · exact absurd g1 h1
    · rw [h, g, if_pos y00, if_pos y00]
