/-! THE BEST CHOICE -/
theorem E_x0_choose {D : Nat} {u0 u1 i30 bs bc : Int32} {a43 a44 a45 a47 a48 a49 : Nat → Int32} {l46 : Nat → Int64} : G_x0_choose D u0 u1 i30 bs bc a43 a44 a45 l46 a47 a48 a49 = if u1.toInt < bs.toInt then (if u0.toInt < i30.toInt then f_x0_choose_j5 u0 u1 i30 a43 a44 a45 a47 a48 l46 (G_x0_chooseOption D) 5 (0 : Int32) bs bc a49 else (u1, F_x0_choiceOfRow i30 a49, a49)) else (bs, bc, a49) := rfl
theorem E_x0_chooseOption {D : Nat} {u0 u1 u2 i30 bs bc : Int32} {a43 a44 a45 a47 a48 a49 : Nat → Int32} {l46 : Nat → Int64} : G_x0_chooseOption (D + 1) u0 u1 u2 i30 bs bc a43 a44 a45 l46 a47 a48 a49 = if (F_x0_mayStand u0 a43 a45 a48 (upd a49 u0.toNatClampNeg u1) l46).toInt = 0 then (bs, bc, upd a49 u0.toNatClampNeg u1) else G_x0_choose D (u0 + (1 : Int32)) (u2 + a47 ((u0 * (4 : Int32)) + u1).toNatClampNeg) i30 bs bc a43 a44 a45 l46 a47 a48 (upd a49 u0.toNatClampNeg u1) := by
  unfold G_x0_chooseOption L_x0_chooseOption
  rw [GT_x0_T_s]
  rfl
section ONE
variable {i10 i30 : Int32} {a29 a43 a44 a45 a47 a48 a49 b28 b29 b33 b34 b35 b36 b37 b38 b39 b40 b41 b42 b55 b56 b57 b58 b59 b60 : Nat → Int32} {l46 : Nat → Int64} {ptn : Nat} {ptc : Nat → Int32} {og : Nat → Nat → Int32} {ogn : Nat → Nat → Nat} {ogc : Nat → Nat → Nat → Int32}
/-- the cost of a row that may stand, from its k-th place on -/
def RN4 (a43 a44 a45 a47 a48 : Nat → Int32) (l46 : Nat → Int64) : Nat → Nat → Int → (Nat → Nat) → Int → Prop
  | 0, _, p, _, e => e = p
  | m + 1, k, p, d, e => (d k : Int) < (a44 k).toInt ∧ MSP a43 a45 a48 l46 d k ∧ RN4 a43 a44 a45 a47 a48 l46 m (k + 1) (p + (a47 (4 * k + d k)).toInt) d e
theorem MSP_congr {d d' : Nat → Nat} {k : Nat} (h : ∀ j, j ≤ k → d j = d' j) (hm : MSP a43 a45 a48 l46 d k) : MSP a43 a45 a48 l46 d' k := by
  obtain ⟨h1, h2⟩ := hm
  have ek := h k (Nat.le_refl _)
  refine ⟨by rw [← ek]; exact h1, fun l hl => ?_⟩
  have el := h l (by omega)
  rw [← ek, ← el]
  exact h2 l hl
theorem RN4_congr : ∀ (m k : Nat) (p : Int) (d d' : Nat → Nat) (e : Int), (∀ j, j < k + m → d j = d' j) → RN4 a43 a44 a45 a47 a48 l46 m k p d e → RN4 a43 a44 a45 a47 a48 l46 m k p d' e
  | 0, _, _, _, _, _, _, h => h
  | m + 1, k, p, d, d', e, hd, h => by
    obtain ⟨h1, h2, h3⟩ := h
    have ek := hd k (by omega)
    refine ⟨by rw [← ek]; exact h1, MSP_congr (fun j hj => hd j (by omega)) h2, ?_⟩
    rw [← ek]
    exact RN4_congr m (k + 1) _ d d' e (fun j hj => hd j (by omega)) h3
theorem RN4_le (hB : ∀ q, q < 24 → 0 ≤ (a47 q).toInt ∧ (a47 q).toInt ≤ 720) (hs : ∀ j, j < 6 → (a44 j).toInt ≤ 4) : ∀ (m k : Nat) (p : Int) (d : Nat → Nat) (e : Int), k + m ≤ 6 → RN4 a43 a44 a45 a47 a48 l46 m k p d e → p ≤ e ∧ e ≤ p + 720 * (m : Int)
  | 0, _, p, _, e, _, h => by have h : e = p := h; omega
  | m + 1, k, p, d, e, hk, h => by
    obtain ⟨h1, _, h3⟩ := h
    have b := hB (4 * k + d k) (by have := hs k (by omega); omega)
    have := RN4_le hB hs m (k + 1) _ d e (by omega) h3
    omega
theorem RN4_all : ∀ (m k : Nat) (p : Int) (d : Nat → Nat) (e : Int), RN4 a43 a44 a45 a47 a48 l46 m k p d e → ∀ j, k ≤ j → j < k + m → (d j : Int) < (a44 j).toInt ∧ MSP a43 a45 a48 l46 d j
  | 0, k, _, _, _, _, j, h1, h2 => by omega
  | m + 1, k, p, d, e, h, j, h1, h2 => by
    by_cases w : j = k
    · rw [w]; exact ⟨h.1, h.2.1⟩
    · exact RN4_all m (k + 1) _ d e h.2.2 j (by omega) (by omega)
/-- which row stands first -/
def LX4 (k n : Nat) (r r' : Nat → Nat) : Prop := (∃ j, k ≤ j ∧ j < n ∧ (∀ i, k ≤ i → i < j → r i = r' i) ∧ r j < r' j) ∨ ∀ i, k ≤ i → i < n → r i = r' i
theorem LX4_anti {k n : Nat} {r r' : Nat → Nat} (h : LX4 k n r r') (g : LX4 k n r' r) : ∀ i, k ≤ i → i < n → r i = r' i := by
  rcases h with ⟨j, h1, h2, h3, h4⟩ | h
  · rcases g with ⟨l, g1, g2, g3, g4⟩ | g
    · exfalso
      rcases Nat.lt_trichotomy j l with w | w | w
      · have := g3 j h1 w; omega
      · subst w; omega
      · have := h3 l g1 w; omega
    · exfalso
      have := g j h1 h2; omega
  · exact h
theorem LX4_trans {k n : Nat} {r r' r'' : Nat → Nat} (h : LX4 k n r r') (g : LX4 k n r' r'') : LX4 k n r r'' := by
  rcases h with ⟨j, h1, h2, h3, h4⟩ | h
  · rcases g with ⟨l, g1, g2, g3, g4⟩ | g
    · rcases Nat.lt_trichotomy j l with w | w | w
      · exact Or.inl ⟨j, h1, h2, fun i q1 q2 => (h3 i q1 q2).trans (g3 i q1 (by omega)), by rw [← g3 j h1 w]; exact h4⟩
      · subst w
        exact Or.inl ⟨j, h1, h2, fun i q1 q2 => (h3 i q1 q2).trans (g3 i q1 q2), Nat.lt_trans h4 g4⟩
      · exact Or.inl ⟨l, g1, g2, fun i q1 q2 => (h3 i q1 (by omega)).trans (g3 i q1 q2), by rw [h3 l g1 w]; exact g4⟩
    · exact Or.inl ⟨j, h1, h2, fun i q1 q2 => (h3 i q1 q2).trans (g i q1 (by omega)), by rw [← g j h1 h2]; exact h4⟩
  · rcases g with ⟨l, g1, g2, g3, g4⟩ | g
    · exact Or.inl ⟨l, g1, g2, fun i q1 q2 => (h i q1 (by omega)).trans (g3 i q1 q2), by rw [h l g1 g2]; exact g4⟩
    · exact Or.inr (fun i q1 q2 => (h i q1 q2).trans (g i q1 q2))
/-- the number of a row -/
def NM4 : Nat → Nat → (Nat → Nat) → Nat
  | 0, _, _ => 0
  | m + 1, k, d => d k + 4 * NM4 m (k + 1) d
theorem NM4_lt {d : Nat → Nat} : ∀ (m k : Nat), (∀ j, k ≤ j → j < k + m → d j < 4) → NM4 m k d < 4 ^ m
  | 0, _, _ => by show 0 < 1; omega
  | m + 1, k, h => by
    have h1 := NM4_lt m (k + 1) (fun j j1 j2 => h j (by omega) (by omega))
    have h2 := h k (Nat.le_refl _) (by omega)
    have e : 4 ^ (m + 1) = 4 ^ m * 4 := Nat.pow_succ 4 m
    show d k + 4 * NM4 m (k + 1) d < 4 ^ (m + 1)
    omega
theorem NM4_dg {d : Nat → Nat} : ∀ (m k i : Nat), i < m → (∀ j, k ≤ j → j < k + m → d j < 4) → dg4 (NM4 m k d) i = d (k + i)
  | 0, _, i, hi, _ => absurd hi (Nat.not_lt_zero i)
  | m + 1, k, 0, _, h => by
    have h2 := h k (Nat.le_refl _) (by omega)
    show (d k + 4 * NM4 m (k + 1) d) / 4 ^ 0 % 4 = d k
    rw [Nat.pow_zero, Nat.div_one]; omega
  | m + 1, k, i + 1, hi, h => by
    have h2 := h k (Nat.le_refl _) (by omega)
    have ih := NM4_dg m (k + 1) i (by omega) (fun j j1 j2 => h j (by omega) (by omega))
    show (d k + 4 * NM4 m (k + 1) d) / 4 ^ (i + 1) % 4 = d (k + (i + 1))
    rw [Nat.pow_succ, Nat.mul_comm (4 ^ i) 4, ← Nat.div_div_eq_div_mul, show (d k + 4 * NM4 m (k + 1) d) / 4 = NM4 m (k + 1) d by omega, show k + (i + 1) = k + 1 + i by omega]
    exact ih
/-- two numbers below 4^N with the same places are one -/
theorem dg4_inj : ∀ (N p q : Nat), p < 4 ^ N → q < 4 ^ N → (∀ i, i < N → dg4 p i = dg4 q i) → p = q
  | 0, p, q, hp, hq, _ => by have hp : p < 1 := hp; have hq : q < 1 := hq; omega
  | N + 1, p, q, hp, hq, h => by
    rw [Nat.pow_succ] at hp hq
    have h0 := h 0 (by omega)
    have h0 : p / 4 ^ 0 % 4 = q / 4 ^ 0 % 4 := h0
    rw [Nat.pow_zero, Nat.div_one, Nat.div_one] at h0
    have ih := dg4_inj N (p / 4) (q / 4) (by omega) (by omega) (fun i hi => by
      have := h (i + 1) (by omega)
      have this : p / 4 ^ (i + 1) % 4 = q / 4 ^ (i + 1) % 4 := this
      rw [Nat.pow_succ, Nat.mul_comm (4 ^ i) 4, ← Nat.div_div_eq_div_mul, ← Nat.div_div_eq_div_mul] at this
      exact this)
    omega
theorem cr_loop {N : Nat} {d : Nat → Nat} (h6 : N ≤ 6) (hd : ∀ j, j < N → d j < 4) (hrow : ∀ j, j < N → a49 j = Int32.ofNat (d j)) : ∀ (m f : Nat) (x3 x4 : Int32), x4.toInt = (m : Int) - 1 → m ≤ N → m < f → x3.toInt = (NM4 (N - m) m d : Int) → (f_x0_choiceOfRow_j2 a49 f x3 x4).toInt = (NM4 N 0 d : Int) := by
  intro m
  induction m with
  | zero =>
    intro f x3 x4 hx hm hf h3
    obtain ⟨f, rfl⟩ : ∃ w, f = w + 1 := ⟨f - 1, by omega⟩
    rw [S_x0_choiceOfRow_j2, if_pos (by omega)]
    exact h3
  | succ m ih =>
    intro f x3 x4 hx hm hf h3
    obtain ⟨f, rfl⟩ : ∃ w, f = w + 1 := ⟨f - 1, by omega⟩
    have hxm : x4.toInt = (m : Int) := by omega
    have hdm := hd m (by omega)
    have hlt := NM4_lt (d := d) (N - (m + 1)) (m + 1) (fun j j1 j2 => hd j (by omega))
    have hb4 : 4 ^ (N - (m + 1)) ≤ 4 ^ 6 := Nat.pow_le_pow_right (by decide) (by omega)
    have h46 : (4 : Nat) ^ 6 = 4096 := by decide
    have e1 : (Int32.ofNat (d m)).toInt = (d m : Int) := nI_toInt (by omega)
    have m1 := toInt_mul h3 c4o rfl (by omega) (by omega)
    have m2 := toInt_add m1 e1 (by omega) (by omega)
    have en : N - m = (N - (m + 1)) + 1 := by omega
    rw [S_x0_choiceOfRow_j2, if_neg (by omega), nc hxm, hrow m (by omega)]
    refine ih f _ _ (dec_of hxm (by omega)) (by omega) (by omega) ?_
    rw [m2, en]
    show _ = ((d m + 4 * NM4 (N - (m + 1)) (m + 1) d : Nat) : Int)
    omega
theorem cr_of {N : Nat} {d : Nat → Nat} (hN : i30.toInt = (N : Int)) (h6 : N ≤ 6) (hd : ∀ j, j < N → d j < 4) (hrow : ∀ j, j < N → a49 j = Int32.ofNat (d j)) : (F_x0_choiceOfRow i30 a49).toInt = (NM4 N 0 d : Int) := by
  have e1 := toInt_sub hN c1 (by omega) (by omega)
  rw [E_x0_choiceOfRow]
  exact cr_loop h6 hd hrow N 7 0 (i30 - 1) e1 (Nat.le_refl _) (by omega) (by rw [c0, Nat.sub_self]; rfl)
def AG (k : Nat) (w d : Nat → Nat) : Prop := ∀ j, j < k → d j = w j
/-- what the search has when it comes back -/
def GS4 (a43 a44 a45 a47 a48 : Nat → Int32) (l46 : Nat → Int64) (N m k : Nat) (Q : (Nat → Nat) → Prop) (p : Int) (w : Nat → Nat) (W : Nat → Int32) (bs bc : Int32) (x : Int32 × Int32 × (Nat → Int32)) : Prop :=
  (∀ j, j < k → x.2.2 j = W j) ∧
  ((x.1 = bs ∧ x.2.1 = bc ∧ ∀ d e, Q d → AG k w d → RN4 a43 a44 a45 a47 a48 l46 m k p d e → bs.toInt ≤ e) ∨
   (x.1.toInt < bs.toInt ∧ ∃ d, Q d ∧ AG k w d ∧ RN4 a43 a44 a45 a47 a48 l46 m k p d x.1.toInt ∧ x.2.1.toInt = (NM4 N 0 d : Int) ∧
      ∀ d' e', Q d' → AG k w d' → RN4 a43 a44 a45 a47 a48 l46 m k p d' e' → x.1.toInt < e' ∨ (x.1.toInt = e' ∧ LX4 k (k + m) d d')))
theorem choose_of {N : Nat} (hN : i30.toInt = (N : Int)) (h6 : N ≤ 6) (hs : ∀ j, j < 6 → 0 ≤ (a44 j).toInt ∧ (a44 j).toInt ≤ 4) (hB : ∀ q, q < 24 → 0 ≤ (a47 q).toInt ∧ (a47 q).toInt ≤ 720) (hsg : ∀ j, j < N → 0 ≤ (a43 j).toInt ∧ (a43 j).toInt < 40) :
    ∀ (m k D : Nat) (x u1 bs bc : Int32) (a49 : Nat → Int32) (w : Nat → Nat), x.toInt = (k : Int) → N = k + m → m ≤ D → 0 ≤ u1.toInt → u1.toInt ≤ 720 * (k : Int) → (∀ j, j < k → a49 j = Int32.ofNat (w j) ∧ w j < 4) → GS4 a43 a44 a45 a47 a48 l46 N m k (fun _ => True) u1.toInt w a49 bs bc (G_x0_choose D x u1 i30 bs bc a43 a44 a45 l46 a47 a48 a49) := by
  intro m
  induction m with
  | zero =>
    intro k D x u1 bs bc a49 w hx hk hD _ _ hw
    have ek : k = N := by omega
    subst ek
    rw [E_x0_choose]
    by_cases z : u1.toInt < bs.toInt
    · rw [if_pos z, if_neg (show ¬ x.toInt < i30.toInt by omega)]
      refine ⟨fun _ _ => rfl, Or.inr ⟨z, w, trivial, fun _ _ => rfl, rfl, cr_of hN h6 (fun j hj => (hw j hj).2) (fun j hj => (hw j hj).1), fun d' e' _ _ h => Or.inr ⟨?_, Or.inr (fun i h1 h2 => absurd h2 (by omega))⟩⟩⟩
      have h : e' = u1.toInt := h
      exact h.symm
    · rw [if_neg z]
      refine ⟨fun _ _ => rfl, Or.inl ⟨rfl, rfl, fun d e _ _ h => ?_⟩⟩
      have h : e = u1.toInt := h
      omega
  | succ m ih =>
    intro k D x u1 bs bc a49 w hx hk hD hu0 hu1 hw
    obtain ⟨D, rfl⟩ : ∃ y, D = y + 1 := ⟨D - 1, by omega⟩
    have hx1 : (x + (1 : Int32)).toInt = ((k + 1 : Nat) : Int) := suc_of hx (by omega)
    rw [E_x0_choose]
    by_cases z : u1.toInt < bs.toInt
    · rw [if_pos z, if_pos (show x.toInt < i30.toInt by omega)]
      -- the OPTIONS one after the other
      have lp : ∀ (q f X : Nat) (y b1 c1' : Int32) (W1 : Nat → Int32), y.toInt = (X : Int) → (a44 k).toInt = (X : Int) + q → q < f → GS4 a43 a44 a45 a47 a48 l46 N (m + 1) k (fun d => d k < X) u1.toInt w a49 bs bc (b1, c1', W1) →
          GS4 a43 a44 a45 a47 a48 l46 N (m + 1) k (fun d => d k < X + q) u1.toInt w a49 bs bc (f_x0_choose_j5 x u1 i30 a43 a44 a45 a47 a48 l46 (G_x0_chooseOption (D + 1)) f y b1 c1' W1) := by
        intro q
        induction q with
        | zero =>
          intro f X y b1 c1' W1 hy hi hf h
          obtain ⟨f, rfl⟩ : ∃ w, f = w + 1 := ⟨f - 1, by omega⟩
          rw [S_x0_choose_j5, nc hx, if_pos (show y.toInt ≥ (a44 k).toInt by omega)]
          exact h
        | succ q ihq =>
          intro f X y b1 c1' W1 hy hi hf h
          obtain ⟨f, rfl⟩ : ∃ w, f = w + 1 := ⟨f - 1, by omega⟩
          have hX4 : X < 4 := by have := (hs k (by omega)).2; omega
          have hz : (y + Int32.ofInt 1).toInt = ((X + 1 : Nat) : Int) := by
            have := toInt_add hy co1 (by omega) (by omega)
            have o1 := co1
            omega
          have ey : y = Int32.ofNat X := oN hy
          rw [S_x0_choose_j5, nc hx, if_neg (show ¬ y.toInt ≥ (a44 k).toInt by omega), show X + (q + 1) = X + 1 + q by omega, E_x0_chooseOption, nc hx]
          obtain ⟨g2, g3⟩ := h
          have g2 : ∀ j, j < k → W1 j = a49 j := g2
          -- the row with this OPTION
          have hrow : ∀ j, j ≤ k → upd W1 k y j = Int32.ofNat ((fun j => if j = k then X else w j) j) := by
            intro j hj
            by_cases t : j = k
            · rw [t, upd_s]; show y = Int32.ofNat (if k = k then X else w k); rw [if_pos rfl]; exact ey
            · unfold upd; rw [if_neg t, g2 j (by omega)]; show a49 j = Int32.ofNat (if j = k then X else w j); rw [if_neg t]; exact (hw j (by omega)).1
          have hd4 : ∀ j, j < k + 1 → (fun j => if j = k then X else w j) j < 4 := by
            intro j hj
            show (if j = k then X else w j) < 4
            by_cases t : j = k
            · rw [if_pos t]; exact hX4
            · rw [if_neg t]; exact (hw j (by omega)).2
          have agx : ∀ d, AG k w d → d k = X → ∀ j, j ≤ k → d j = (fun j => if j = k then X else w j) j := by
            intro d hd hk1 j hj
            show d j = if j = k then X else w j
            by_cases t : j = k
            · rw [if_pos t, t]; exact hk1
            · rw [if_neg t]; exact hd j (by omega)
          rcases ms_of (a43 := a43) (a45 := a45) (a48 := a48) (a49 := upd W1 k y) (l46 := l46) (d := fun j => if j = k then X else w j) (N := k + 1) hx (by omega) (by omega) hd4 hrow (fun j hj => hsg j (by omega)) with ⟨q1, q2⟩ | ⟨q1, q2⟩
          · rw [q1, if_neg n10]
            have eix := (o_ix hx hy (by omega) (by omega)).1
            have hp := hB (4 * k + X) (by omega)
            have epr := toInt_add (x := u1) rfl (y := a47 (4 * k + X)) rfl (by omega) (by omega)
            have G := ih (k + 1) D (x + (1 : Int32)) (u1 + a47 (4 * k + X)) b1 c1' (upd W1 k y) (fun j => if j = k then X else w j) hx1 (by omega) (by omega) (by omega) (by omega) (fun j hj => ⟨hrow j (by omega), hd4 j hj⟩)
            rw [eix, epr] at *
            generalize G_x0_choose D (x + (1 : Int32)) (u1 + a47 (4 * k + X)) i30 b1 c1' a43 a44 a45 l46 a47 a48 (upd W1 k y) = R at G ⊢
            obtain ⟨e2, e3⟩ := G
            -- runs with this OPTION
            have run : ∀ d e, AG k w d → d k = X → RN4 a43 a44 a45 a47 a48 l46 (m + 1) k u1.toInt d e → (AG (k + 1) (fun j => if j = k then X else w j) d ∧ RN4 a43 a44 a45 a47 a48 l46 m (k + 1) (u1.toInt + (a47 (4 * k + X)).toInt) d e) := by
              rintro d e hd hk1 ⟨_, _, h3⟩
              rw [hk1] at h3
              exact ⟨fun j hj => agx d hd hk1 j (by omega), h3⟩
            have nur : ∀ d e, AG (k + 1) (fun j => if j = k then X else w j) d → RN4 a43 a44 a45 a47 a48 l46 m (k + 1) (u1.toInt + (a47 (4 * k + X)).toInt) d e → (AG k w d ∧ d k = X ∧ RN4 a43 a44 a45 a47 a48 l46 (m + 1) k u1.toInt d e) := by
              intro d e hd h3
              have hk1 : d k = X := by
                have := hd k (by omega)
                have this : d k = if k = k then X else w k := this
                rw [if_pos rfl] at this; exact this
              refine ⟨fun j hj => ?_, hk1, ?_⟩
              · have := hd j (by omega)
                have this : d j = if j = k then X else w j := this
                rw [if_neg (by omega)] at this; exact this
              · refine ⟨by rw [hk1]; omega, MSP_congr (fun j hj => (hd j (by omega)).symm) q2, ?_⟩
                rw [hk1]; exact h3
            refine ihq f (X + 1) _ _ _ _ hz (by omega) (by omega) ⟨fun j hj => ?_, ?_⟩
            · show R.2.2 j = a49 j
              rw [e2 j (by omega)]
              unfold upd
              rw [if_neg (by omega)]; exact g2 j hj
            · show (R.1 = bs ∧ R.2.1 = bc ∧ ∀ d e, d k < X + 1 → AG k w d → RN4 a43 a44 a45 a47 a48 l46 (m + 1) k u1.toInt d e → bs.toInt ≤ e) ∨ (R.1.toInt < bs.toInt ∧ ∃ d, d k < X + 1 ∧ AG k w d ∧ RN4 a43 a44 a45 a47 a48 l46 (m + 1) k u1.toInt d R.1.toInt ∧ R.2.1.toInt = (NM4 N 0 d : Int) ∧ ∀ d' e', d' k < X + 1 → AG k w d' → RN4 a43 a44 a45 a47 a48 l46 (m + 1) k u1.toInt d' e' → R.1.toInt < e' ∨ (R.1.toInt = e' ∧ LX4 k (k + (m + 1)) d d'))
              have old : b1.toInt ≤ bs.toInt ∧ ∀ d' e', d' k < X → AG k w d' → RN4 a43 a44 a45 a47 a48 l46 (m + 1) k u1.toInt d' e' → b1.toInt ≤ e' := by
                rcases g3 with ⟨t1, t2, t3⟩ | ⟨t1, d, t2, t3, t4, t5, t6⟩
                · have t1 : b1 = bs := t1
                  rw [t1]; exact ⟨Int.le_refl _, t3⟩
                · have t1 : b1.toInt < bs.toInt := t1
                  refine ⟨by omega, fun d' e' h1 h2 h3 => ?_⟩
                  rcases t6 d' e' h1 h2 h3 with v | ⟨v, -⟩
                  · have v : b1.toInt < e' := v
                    omega
                  · have v : b1.toInt = e' := v
                    omega
              rcases e3 with ⟨v1, v2, v3⟩ | ⟨v1, d2, -, v3, v4, v5, v6⟩
              · have new : ∀ d e, d k = X → AG k w d → RN4 a43 a44 a45 a47 a48 l46 (m + 1) k u1.toInt d e → b1.toInt ≤ e := fun d e h1 h2 h3 => v3 d e trivial (run d e h2 h1 h3).1 (run d e h2 h1 h3).2
                rcases g3 with ⟨t1, t2, t3⟩ | ⟨t1, d, t2, t3, t4, t5, t6⟩
                · have t1 : b1 = bs := t1
                  refine Or.inl ⟨v1.trans t1, v2.trans t2, fun d e h1 h2 h3 => ?_⟩
                  by_cases t : d k = X
                  · rw [← t1]; exact new d e t h2 h3
                  · exact t3 d e (by show d k < X; omega) h2 h3
                · have t1 : b1.toInt < bs.toInt := t1
                  have t2 : d k < X := t2
                  refine Or.inr ⟨by rw [v1]; exact t1, d, by omega, t3, by rw [v1]; exact t4, by rw [v2]; exact t5, fun d' e' h1 h2 h3 => ?_⟩
                  rw [v1]
                  by_cases t : d' k = X
                  · have le := new d' e' t h2 h3
                    by_cases eq : b1.toInt < e'
                    · exact Or.inl eq
                    · exact Or.inr ⟨by omega, Or.inl ⟨k, Nat.le_refl k, by omega, fun i q1 q2 => absurd q1 (by omega), by omega⟩⟩
                  · exact t6 d' e' (by show d' k < X; omega) h2 h3
              · obtain ⟨n1, n2, n3⟩ := nur d2 _ v3 v4
                refine Or.inr ⟨by omega, d2, by omega, n1, n3, v5, fun d' e' h1 h2 h3 => ?_⟩
                by_cases t : d' k = X
                · obtain ⟨r1, r2⟩ := run d' e' h2 t h3
                  rcases v6 d' e' trivial r1 r2 with u | ⟨u, u2⟩
                  · exact Or.inl u
                  · refine Or.inr ⟨u, ?_⟩
                    rcases u2 with ⟨j, j1, j2, j3, j4⟩ | u2
                    · refine Or.inl ⟨j, by omega, by omega, fun i q1 q2 => ?_, j4⟩
                      by_cases ti : i = k
                      · rw [ti, n2, t]
                      · exact j3 i (by omega) q2
                    · refine Or.inr (fun i q1 q2 => ?_)
                      by_cases ti : i = k
                      · rw [ti, n2, t]
                      · exact u2 i (by omega) (by omega)
                · have le := old.2 d' e' (by omega) h2 h3
                  exact Or.inl (by omega)
          · rw [q1, if_pos y00]
            have no : ∀ d e, d k < X + 1 → AG k w d → RN4 a43 a44 a45 a47 a48 l46 (m + 1) k u1.toInt d e → d k < X := by
              intro d e h1 h2 h3
              by_cases t : d k = X
              · exact absurd (MSP_congr (agx d h2 t) h3.2.1) q2
              · omega
            refine ihq f (X + 1) _ b1 c1' (upd W1 k y) hz (by omega) (by omega) ⟨fun j hj => ?_, ?_⟩
            · show upd W1 k y j = a49 j
              unfold upd
              rw [if_neg (by omega)]; exact g2 j hj
            · rcases g3 with ⟨t1, t2, t3⟩ | ⟨t1, d, t2, t3, t4, t5, t6⟩
              · exact Or.inl ⟨t1, t2, fun d e h1 h2 h3 => t3 d e (no d e h1 h2 h3) h2 h3⟩
              · exact Or.inr ⟨t1, d, by show d k < X + 1; have : d k < X := t2; omega, t3, t4, t5, fun d' e' h1 h2 h3 => t6 d' e' (no d' e' h1 h2 h3) h2 h3⟩
      have h44 := hs k (by omega)
      have L0 := lp (a44 k).toInt.toNat 5 0 (0 : Int32) bs bc a49 c0 (by omega) (by omega) ⟨fun _ _ => rfl, Or.inl ⟨rfl, rfl, fun d e h1 _ _ => absurd h1 (Nat.not_lt_zero _)⟩⟩
      have all : ∀ d e, RN4 a43 a44 a45 a47 a48 l46 (m + 1) k u1.toInt d e → d k < 0 + (a44 k).toInt.toNat := fun d e h => by
        have := h.1
        omega
      obtain ⟨g2, g3⟩ := L0
      refine ⟨g2, ?_⟩
      rcases g3 with ⟨t1, t2, t3⟩ | ⟨t1, d, t2, t3, t4, t5, t6⟩
      · exact Or.inl ⟨t1, t2, fun d e _ h2 h => t3 d e (all d e h) h2 h⟩
      · exact Or.inr ⟨t1, d, trivial, t3, t4, t5, fun d' e' _ h2 h => t6 d' e' (all d' e' h) h2 h⟩
    · rw [if_neg z]
      refine ⟨fun _ _ => rfl, Or.inl ⟨rfl, rfl, fun d e _ _ h => ?_⟩⟩
      have := (RN4_le hB (fun j hj => (hs j hj).2) _ _ _ _ _ (by omega) h).1
      omega
/-! the reference -/
theorem SM4_RN {d : Nat → Nat} (hB : ∀ q, q < 24 → 0 ≤ (a47 q).toInt ∧ (a47 q).toInt ≤ 720) (hs : ∀ j, j < 6 → 0 ≤ (a44 j).toInt ∧ (a44 j).toInt ≤ 4) : ∀ (m k : Nat) (s : Int32), k + m ≤ 6 → 0 ≤ s.toInt → s.toInt ≤ 720 * (k : Int) → (∀ j, k ≤ j → j < k + m → (d j : Int) < (a44 j).toInt ∧ MSP a43 a45 a48 l46 d j) → RN4 a43 a44 a45 a47 a48 l46 m k s.toInt d (SM4 a47 d m k s).toInt
  | 0, _, _, _, _, _, _ => rfl
  | m + 1, k, s, hk, h0, h1, h => by
    obtain ⟨q1, q2⟩ := h k (Nat.le_refl _) (by omega)
    have h4 := hs k (by omega)
    have b := hB (4 * k + d k) (by omega)
    have e := toInt_add (x := s) rfl (y := a47 (4 * k + d k)) rfl (by omega) (by omega)
    refine ⟨q1, q2, ?_⟩
    rw [← e]
    exact SM4_RN hB hs m (k + 1) (s + a47 (4 * k + d k)) (by omega) (by omega) (by omega) (fun j j1 j2 => h j (by omega) (by omega))
theorem RN4_uniq : ∀ (m k : Nat) (p : Int) (d : Nat → Nat) (e e' : Int), RN4 a43 a44 a45 a47 a48 l46 m k p d e → RN4 a43 a44 a45 a47 a48 l46 m k p d e' → e = e'
  | 0, _, _, _, _, _, h, h' => h.trans h'.symm
  | m + 1, k, p, d, e, e', h, h' => RN4_uniq m (k + 1) _ d e e' h.2.2 h'.2.2
theorem ah4_loop {x y : Int32} {p q N : Nat} (hx : x.toInt = (p : Int)) (hy : y.toInt = (q : Int)) (hN : i30.toInt = (N : Int)) (h6 : N ≤ 6) : ∀ (m f X : Nat) (z : Int32), z.toInt = (X : Int) → N = X + m → m < f → (∀ i, i < X → dg4 p i = dg4 q i) →
    ((f_m12_isAhead_j1 x y i30 (4 : Int32) f z).toInt ≠ 0 ∧ LX4 0 N (dg4 p) (dg4 q)) ∨ ((f_m12_isAhead_j1 x y i30 (4 : Int32) f z).toInt = 0 ∧ LX4 0 N (dg4 q) (dg4 p)) := by
  have o1 := co1
  intro m
  induction m with
  | zero =>
    intro f X z hz hk hf he
    obtain ⟨f, rfl⟩ : ∃ w, f = w + 1 := ⟨f - 1, by omega⟩
    rw [S_m12_isAhead_j1, if_pos (show z.toInt ≥ i30.toInt by omega)]
    exact Or.inr ⟨c0, Or.inr (fun i _ h => (he i (by omega)).symm)⟩
  | succ m ih =>
    intro f X z hz hk hf he
    obtain ⟨f, rfl⟩ : ∃ w, f = w + 1 := ⟨f - 1, by omega⟩
    have hz1 := toInt_add hz co1 (by omega) (by omega)
    have d1 := dig4_of (K := z) hz (by omega) hx
    have d2 := dig4_of (K := z) hz (by omega) hy
    rw [S_m12_isAhead_j1, if_neg (show ¬ z.toInt ≥ i30.toInt by omega), d1, d2]
    by_cases w : (dg4 p X : Int) = (dg4 q X : Int)
    · rw [if_pos w]
      refine ih f (X + 1) _ (by omega) (by omega) (by omega) (fun i hi => ?_)
      by_cases t : i = X
      · rw [t]; omega
      · exact he i (by omega)
    · rw [if_neg w]
      by_cases w2 : (dg4 p X : Int) ≥ (dg4 q X : Int)
      · rw [if_pos w2]
        exact Or.inr ⟨c0, Or.inl ⟨X, Nat.zero_le _, by omega, fun i _ hi => (he i hi).symm, by omega⟩⟩
      · rw [if_neg w2]
        exact Or.inl ⟨by decide, Or.inl ⟨X, Nat.zero_le _, by omega, fun i _ hi => he i hi, by omega⟩⟩
/-- a row that may be -/
def VLD (a43 a44 a45 a48 : Nat → Int32) (l46 : Nat → Int64) (N p : Nat) : Prop := CH a44 N p ∧ ∀ j, j < N → MSP a43 a45 a48 l46 (dg4 p) j
def CST4 (a47 : Nat → Int32) (N p : Nat) : Int := (SM4 a47 (dg4 p) N 0 0).toInt
/-- the best of the rows below X -/
def BS4 (a43 a44 a45 a47 a48 : Nat → Int32) (l46 : Nat → Int64) (N X : Nat) (b : Int32) : Prop :=
  (b = (-1 : Int32) ∧ ∀ q, q < X → ¬ VLD a43 a44 a45 a48 l46 N q) ∨ ∃ p : Nat, b.toInt = (p : Int) ∧ p < X ∧ VLD a43 a44 a45 a48 l46 N p ∧ ∀ q, q < X → VLD a43 a44 a45 a48 l46 N q → CST4 a47 N p < CST4 a47 N q ∨ (CST4 a47 N p = CST4 a47 N q ∧ LX4 0 N (dg4 p) (dg4 q))
theorem one_loop {d28 d29 : Nat → Int32} {N : Nat} (hN : i30.toInt = (N : Int)) (h6 : N ≤ 6) (hA : RA l46 b58) (hs : ∀ j, j < N → a44 j = b56 j) (hs4 : ∀ j, j < N → (a44 j).toInt ≤ 4) (ho : ∀ k, k < N → a43 k = b55 k ∧ ∀ j : Nat, (j : Int) < (a44 k).toInt → a45 (4 * k + j) = b57 (4 * k + j)) (hsg : ∀ j, j < N → 0 ≤ (a43 j).toInt ∧ (a43 j).toInt < 40) (hQ : PQ 720 a47 b59) (hZ : NQ a48 b60) :
    ∀ (m f X : Nat) (b x : Int32), x.toInt = (X : Int) → X + m = 4 ^ N → m < f → BS4 a43 a44 a45 a47 a48 l46 N X b → ∃ b' : Int32, f_m12_one_j12 i30 b55 b56 b57 b58 d28 d29 b59 b60 f b x = (b', d28, d29, b59, b60) ∧ BS4 a43 a44 a45 a47 a48 l46 N (4 ^ N) b' := by
  have o1 := co1
  have es := sh4_of hN h6
  have hb4 : 4 ^ N ≤ 4 ^ 6 := Nat.pow_le_pow_right (by decide) h6
  have h46 : (4 : Nat) ^ 6 = 4096 := by decide
  intro m
  induction m with
  | zero =>
    intro f X b x hx hm hf h
    obtain ⟨f, rfl⟩ : ∃ w, f = w + 1 := ⟨f - 1, by omega⟩
    rw [S_m12_one_j12, if_pos (show x.toInt ≥ ((1 : Int32) <<< (((2 : Int32) * i30) &&& 31)).toInt by omega)]
    exact ⟨b, rfl, by rw [show 4 ^ N = X by omega]; exact h⟩
  | succ m ih =>
    intro f X b x hx hm hf h
    obtain ⟨f, rfl⟩ : ∃ w, f = w + 1 := ⟨f - 1, by omega⟩
    have hx1 := toInt_add hx co1 (by omega) (by omega)
    have keep : ¬ VLD a43 a44 a45 a48 l46 N X → ∃ b' : Int32, f_m12_one_j12 i30 b55 b56 b57 b58 d28 d29 b59 b60 f b (x + Int32.ofInt 1) = (b', d28, d29, b59, b60) ∧ BS4 a43 a44 a45 a47 a48 l46 N (4 ^ N) b' := by
      intro hn
      refine ih f (X + 1) b (x + Int32.ofInt 1) (by omega) (by omega) (by omega) ?_
      rcases h with ⟨h1, h2⟩ | ⟨p, h1, h2, h3, h4⟩
      · refine Or.inl ⟨h1, fun q hq => ?_⟩
        by_cases t : q = X
        · rw [t]; exact hn
        · exact h2 q (by omega)
      · refine Or.inr ⟨p, h1, by omega, h3, fun q hq hv => ?_⟩
        by_cases t : q = X
        · rw [t] at hv; exact absurd hv hn
        · exact h4 q (by omega) hv
    rw [S_m12_one_j12, if_neg (show ¬ x.toInt ≥ ((1 : Int32) <<< (((2 : Int32) * i30) &&& 31)).toInt by omega)]
    rcases ic_of (u0 := x) (a44 := a44) (b56 := b56) hN h6 hs with ⟨p', hp', hc, g⟩ | ⟨hno, g⟩
    · have ep : p' = X := by omega
      rw [ep] at hc
      rw [g, if_neg n10, E_m12_mayBe]
      rcases mm_all (a48 := a48) (b60 := b60) hN hA hx h6 hc hs4 ho hsg hZ N 7 0 0 c0 (by omega) (by omega) (fun j hj => absurd hj (by omega)) with ⟨k1, k2⟩ | ⟨k1, k2⟩
      · have hv : VLD a43 a44 a45 a48 l46 N X := ⟨hc, k2⟩
        have cx : (F_m12_costOf x i30 b59).toInt = CST4 a47 N X := by rw [E_m12_costOf, co_loop hN h6 hx hQ N 7 0 0 0 c0 (by omega) (by omega)]; rfl
        rw [k1, if_pos (show (1 : Int32).toInt ≠ 0 by decide), cx]
        have take : (∀ q, q < X → VLD a43 a44 a45 a48 l46 N q → CST4 a47 N X < CST4 a47 N q ∨ (CST4 a47 N X = CST4 a47 N q ∧ LX4 0 N (dg4 X) (dg4 q))) → ∃ b' : Int32, f_m12_one_j12 i30 b55 b56 b57 b58 d28 d29 b59 b60 f x (x + Int32.ofInt 1) = (b', d28, d29, b59, b60) ∧ BS4 a43 a44 a45 a47 a48 l46 N (4 ^ N) b' := by
          intro ht
          refine ih f (X + 1) x (x + Int32.ofInt 1) (by omega) (by omega) (by omega) (Or.inr ⟨X, hx, by omega, hv, fun q hq hvq => ?_⟩)
          by_cases t : q = X
          · rw [t]; exact Or.inr ⟨rfl, Or.inr (fun _ _ _ => rfl)⟩
          · exact ht q (by omega) hvq
        have stay : ∀ p : Nat, b.toInt = (p : Int) → p < X → VLD a43 a44 a45 a48 l46 N p → (∀ q, q < X → VLD a43 a44 a45 a48 l46 N q → CST4 a47 N p < CST4 a47 N q ∨ (CST4 a47 N p = CST4 a47 N q ∧ LX4 0 N (dg4 p) (dg4 q))) → (CST4 a47 N p < CST4 a47 N X ∨ (CST4 a47 N p = CST4 a47 N X ∧ LX4 0 N (dg4 p) (dg4 X))) → ∃ b' : Int32, f_m12_one_j12 i30 b55 b56 b57 b58 d28 d29 b59 b60 f b (x + Int32.ofInt 1) = (b', d28, d29, b59, b60) ∧ BS4 a43 a44 a45 a47 a48 l46 N (4 ^ N) b' := by
          intro p h1 h2 h3 h4 h5
          refine ih f (X + 1) b (x + Int32.ofInt 1) (by omega) (by omega) (by omega) (Or.inr ⟨p, h1, by omega, h3, fun q hq hvq => ?_⟩)
          by_cases t : q = X
          · rw [t]; exact h5
          · exact h4 q (by omega) hvq
        rcases h with ⟨h1, h2⟩ | ⟨p, h1, h2, h3, h4⟩
        · rw [if_pos (show b.toInt = -1 by rw [h1]; decide)]
          exact take (fun q hq hvq => absurd hvq (h2 q hq))
        · have cb : (F_m12_costOf b i30 b59).toInt = CST4 a47 N p := by rw [E_m12_costOf, co_loop hN h6 h1 hQ N 7 0 0 0 c0 (by omega) (by omega)]; rfl
          rw [if_neg (show ¬ b.toInt = -1 by omega), cb]
          by_cases w1 : CST4 a47 N X < CST4 a47 N p
          · rw [if_pos w1]
            refine take (fun q hq hvq => ?_)
            rcases h4 q hq hvq with v | ⟨v, _⟩
            · exact Or.inl (by omega)
            · exact Or.inl (by omega)
          · rw [if_neg w1]
            by_cases w2 : CST4 a47 N X ≠ CST4 a47 N p
            · rw [if_pos w2]
              exact stay p h1 h2 h3 h4 (Or.inl (by omega))
            · rw [if_neg w2, E_m12_isAhead]
              have ec : CST4 a47 N X = CST4 a47 N p := by omega
              rcases ah4_loop (x := x) (y := b) hx h1 hN h6 N 7 0 0 c0 (by omega) (by omega) (fun i hi => absurd hi (Nat.not_lt_zero i)) with ⟨v1, v2⟩ | ⟨v1, v2⟩
              · rw [if_neg v1]
                refine take (fun q hq hvq => ?_)
                rcases h4 q hq hvq with v | ⟨v, v3⟩
                · exact Or.inl (by omega)
                · exact Or.inr ⟨by omega, LX4_trans v2 v3⟩
              · rw [if_pos v1]
                exact stay p h1 h2 h3 h4 (Or.inr ⟨by omega, v2⟩)
      · rw [k1, if_neg (show ¬ ((0 : Int32).toInt ≠ 0) by decide)]
        exact keep (fun z => k2 z.2)
    · rw [g, if_pos y00]
      exact keep (fun z => hno X hx z.1)
end ONE
section ONR
variable {v day i3 i6 i9 cu : Int32} {a7 a8 a13 a18 a19 a20 a21 a22 a23 a24 a25 a26 b2 b3 b4 b8 b15 b16 b17 b18 b19 b20 b21 b22 b23 b24 b25 b26 b5 : Nat → Int32} {r9n rtn : Nat → Nat} {r9c rtc : Nat → Nat → Int32} {c : Nat}
variable {i10 i30 : Int32} {a29 a43 a44 a45 a47 a48 a49 b28 b29 b33 b34 b35 b36 b37 b38 b39 b40 b41 b42 b55 b56 b57 b58 b59 b60 : Nat → Int32} {l46 : Nat → Int64} {ptn : Nat} {ptc : Nat → Int32} {og : Nat → Nat → Int32} {ogn : Nat → Nat → Nat} {ogc : Nat → Nat → Nat → Int32}
theorem R_one {i17 i18 i19 i20 i21 i22 i23 i24 i25 i26 : Int32} (hv : 0 ≤ i3.toInt ∧ i3.toInt ≤ 60) (h6 : 0 ≤ i6.toInt ∧ i6.toInt ≤ 6) (h9 : 0 ≤ i9.toInt ∧ i9.toInt ≤ 20) (hV : VRS i3 a7 b2) (hM : MES i3 a8 b3) (hP : PPL i6 a13 b8) (hL : LAW i9 a18 a19 a20 a21 a22 a23 a24 a25 b15 b16 b17 b18 b19 b20 b21 b22) (hK : KI i9 b18 b19 b20 b21 b22) (hR : RWS r9n r9c b4 b5) (hC : RCC i9 a21 a26 rtn rtc b23 b24 b25 b26) (hN : RNC i10 og ogn ogc b33 b34 b36 b37 b38 b39 b40 b41 b42) (hF : FXD i10 a29 b34 b35) (h10 : 0 ≤ i10.toInt ∧ i10.toInt ≤ 200) (hT : TRN i10 ogn ogc) (hO : RO i30 a43 a44 a45 i30 b55 b56 b57) (hA : RA l46 b58) (hs40 : ∀ j : Nat, (j : Int) < i30.toInt → 0 ≤ (b55 j).toInt ∧ (b55 j).toInt ≤ 39) : (F_x11_one day i3 i6 i9 i10 i17 i18 i19 i20 i21 i22 i23 i24 i25 i26 i30 a7 a8 a13 a18 a19 a20 a21 a22 a23 a24 a25 a26 a29 a43 a44 a45 a47 a48 a49 l46 r9n r9c ogn ogc rtn rtc ptn ptc).1 = (F_m12_one day i3 i6 i9 i10 i30 b2 b3 b4 b8 b15 b16 b17 b18 b19 b20 b21 b22 b23 b24 b25 b26 b28 b29 b34 b35 b38 b39 b40 b41 b42 b55 b56 b57 b58 b59 b60).1 := by
  have hRN := hN
  obtain ⟨N, hN⟩ : ∃ N : Nat, i30.toInt = (N : Int) := ⟨i30.toInt.toNat, by have := hO.2.1.1; omega⟩
  have h6' : N ≤ 6 := by have := hO.2.1.2; omega
  have ho := hO.2.2.1
  have hs : ∀ j, j < N → a44 j = b56 j := fun j hj => (ho j (by omega)).2.1
  have hs4 : ∀ j, j < N → (a44 j).toInt ≤ 4 := fun j hj => (ho j (by omega)).2.2.1.2
  have hs6 : ∀ j, j < 6 → 0 ≤ (a44 j).toInt ∧ (a44 j).toInt ≤ 4 := by
    intro j hj
    by_cases t : j < N
    · exact (ho j (by omega)).2.2.1
    · have := hO.2.2.2 j (by omega) hj; omega
  have ho2 : ∀ k, k < N → a43 k = b55 k ∧ ∀ j : Nat, (j : Int) < (a44 k).toInt → a45 (4 * k + j) = b57 (4 * k + j) := fun k hk => ⟨(ho k (by omega)).1, (ho k (by omega)).2.2.2⟩
  have hsg : ∀ j, j < N → 0 ≤ (a43 j).toInt ∧ (a43 j).toInt < 40 := fun j hj => by
    rw [(ho2 j hj).1]; have := hs40 j (by omega); omega
  have hfar : (2147483647 : Int32).toInt = 2147483647 := by decide
  rw [E_x11_one, E_m12_one, E_x0_leastPriced]
  dsimp only
  -- the search and the look, over the same prices
  have both : ∀ (e1 e2 d28 d29 g1 g2 : Nat → Int32), (N = 0 ∨ (PQ 720 e1 g1 ∧ NQ e2 g2)) → (G_x0_choose 6 (0 : Int32) (0 : Int32) i30 (2147483647 : Int32) (-1 : Int32) a43 a44 a45 l46 e1 e2 a49).2.1 = (f_m12_one_j12 i30 b55 b56 b57 b58 d28 d29 g1 g2 2147483648 (-1 : Int32) (0 : Int32)).1 := by
    intro e1 e2 d28 d29 g1 g2 hh
    have p4 : 0 < 4 ^ N := Nat.pow_pos (by decide)
    rcases hh with hN0 | ⟨s3, s4⟩
    · subst hN0
      have es := sh4_of hN h6'
      have e1' : ((1 : Int32) <<< (((2 : Int32) * i30) &&& 31)).toInt = 1 := es
      have o1 := co1
      have x1 : ((0 : Int32) + Int32.ofInt 1).toInt = 1 := by decide
      rw [E_x0_choose, if_pos (show (0 : Int32).toInt < (2147483647 : Int32).toInt by decide), if_neg (show ¬ (0 : Int32).toInt < i30.toInt by rw [c0]; omega)]
      show F_x0_choiceOfRow i30 a49 = _
      have q1 : F_x0_choiceOfRow i30 a49 = 0 := eq_of_toInt (by rw [cr_of (d := fun _ => 0) hN h6' (fun j hj => absurd hj (by omega)) (fun j hj => absurd hj (by omega))]; rfl)
      have i1 : F_m12_isChoice 0 i30 b56 = 1 := by
        rcases ic_of (u0 := 0) (a44 := a44) (b56 := b56) hN h6' hs with ⟨_, _, _, g⟩ | ⟨hno, _⟩
        · exact g
        · exact absurd ⟨by show 0 < 1; omega, fun j hj => absurd hj (by omega)⟩ (hno 0 c0)
      have i2 : F_m12_mayBe 0 i30 b55 b57 b58 g2 = 1 := by
        rw [E_m12_mayBe, S_m12_mayBe_j1 (n_ := 6), if_pos (show (0 : Int32).toInt ≥ i30.toInt by rw [c0]; omega)]
      rw [q1, S_m12_one_j12 (n_ := 2147483647), if_neg (show ¬ (0 : Int32).toInt ≥ ((1 : Int32) <<< (((2 : Int32) * i30) &&& 31)).toInt by rw [c0]; omega), i1, if_neg n10, i2, if_pos (show (1 : Int32).toInt ≠ 0 by decide), if_pos (show (-1 : Int32).toInt = -1 by decide), S_m12_one_j12 (n_ := 2147483646), if_pos (by rw [x1, e1']; decide)]
    · have hB : ∀ q, q < 24 → 0 ≤ (e1 q).toInt ∧ (e1 q).toInt ≤ 720 := fun q hq => (s3 q hq).2
      have CO := choose_of (a43 := a43) (a44 := a44) (a45 := a45) (a47 := e1) (a48 := e2) (l46 := l46) hN h6' hs6 hB hsg N 0 6 0 0 (2147483647 : Int32) (-1 : Int32) a49 (fun _ => 0) c0 (by omega) h6' (by decide) (by rw [c0]; omega) (fun j hj => absurd hj (Nat.not_lt_zero j))
      obtain ⟨b', r1, r2⟩ := one_loop (a43 := a43) (a44 := a44) (a45 := a45) (a47 := e1) (a48 := e2) (b59 := g1) (b60 := g2) (d28 := d28) (d29 := d29) hN h6' hA hs hs4 ho2 hsg s3 s4 (4 ^ N) 2147483648 0 (-1 : Int32) 0 c0 (by omega) (by have := Nat.pow_le_pow_right (n := 4) (by decide) h6'; have h46 : (4 : Nat) ^ 6 = 4096 := rfl; omega) (Or.inl ⟨rfl, fun q hq => absurd hq (Nat.not_lt_zero q)⟩)
      rw [r1]
      generalize G_x0_choose 6 (0 : Int32) (0 : Int32) i30 (2147483647 : Int32) (-1 : Int32) a43 a44 a45 l46 e1 e2 a49 = R at CO ⊢
      show R.2.1 = b'
      obtain ⟨_, CO⟩ := CO
      rw [c0] at CO
      -- a row that may be, as a run
      have run : ∀ q, VLD a43 a44 a45 e2 l46 N q → RN4 a43 a44 a45 e1 e2 l46 N 0 0 (dg4 q) (CST4 e1 N q) := by
        intro q hv
        have h := SM4_RN (a43 := a43) (a44 := a44) (a45 := a45) (a47 := e1) (a48 := e2) (l46 := l46) (d := dg4 q) hB hs6 N 0 0 (by omega) (by decide) (by rw [c0]; omega) (fun j _ j2 => ⟨hv.1.2 j (by omega), hv.2 j (by omega)⟩)
        rw [c0] at h; exact h
      rcases CO with ⟨t1, t2, t3⟩ | ⟨t1, d, -, -, t4, t5, t6⟩
      · rcases r2 with ⟨k1, _⟩ | ⟨p, k1, k2, k3, _⟩
        · rw [t2, k1]
        · have hr := run p k3
          have hle := RN4_le hB (fun j hj => (hs6 j hj).2) N 0 0 (dg4 p) _ (by omega) hr
          have := t3 (dg4 p) _ trivial (fun j hj => absurd hj (Nat.not_lt_zero j)) hr
          rw [hfar] at this; omega
      · -- the run's row has a number
        have dall := RN4_all N 0 0 d _ t4
        have d4 : ∀ j, 0 ≤ j → j < 0 + N → d j < 4 := fun j _ hj => by
          have := (dall j (Nat.zero_le _) hj).1
          have := (hs6 j (by omega)).2
          omega
        have dd : ∀ j, j < N → dg4 (NM4 N 0 d) j = d j := fun j hj => by
          have := NM4_dg N 0 j hj d4
          rw [Nat.zero_add] at this; exact this
        have hv : VLD a43 a44 a45 e2 l46 N (NM4 N 0 d) := by
          refine ⟨⟨NM4_lt N 0 d4, fun j hj => by rw [dd j hj]; exact (dall j (Nat.zero_le _) (by omega)).1⟩, fun j hj => ?_⟩
          exact MSP_congr (fun i hi => (dd i (by omega)).symm) (dall j (Nat.zero_le _) (by omega)).2
        have hrd := RN4_congr N 0 0 d (dg4 (NM4 N 0 d)) _ (fun j hj => (dd j (by omega)).symm) t4
        have ecost : CST4 e1 N (NM4 N 0 d) = R.1.toInt := RN4_uniq N 0 0 _ _ _ (run _ hv) hrd
        rcases r2 with ⟨_, k2⟩ | ⟨p, k1, k2, k3, k4⟩
        · exact absurd hv (k2 _ hv.1.1)
        · have hr := run p k3
          have h1 := t6 (dg4 p) _ trivial (fun j hj => absurd hj (Nat.not_lt_zero j)) hr
          have h2 := k4 _ hv.1.1 hv
          have eL : LX4 0 N d (dg4 p) ∧ LX4 0 N (dg4 p) (dg4 (NM4 N 0 d)) := by
            rcases h1 with v | ⟨v, v2⟩
            · rcases h2 with u | ⟨u, _⟩
              · omega
              · omega
            · rcases h2 with u | ⟨u, u2⟩
              · omega
              · rw [Nat.zero_add] at v2; exact ⟨v2, u2⟩
          have eL1 : LX4 0 N (dg4 (NM4 N 0 d)) (dg4 p) := by
            rcases eL.1 with ⟨j, j1, j2, j3, j4⟩ | u
            · exact Or.inl ⟨j, j1, j2, fun i i1 i2 => by rw [dd i (by omega)]; exact j3 i i1 i2, by rw [dd j j2]; exact j4⟩
            · exact Or.inr (fun i i1 i2 => by rw [dd i i2]; exact u i i1 i2)
          have same := LX4_anti eL1 eL.2
          have epn : NM4 N 0 d = p := dg4_inj N _ _ hv.1.1 k2 (fun i hi => same i (Nat.zero_le _) hi)
          exact eq_of_toInt (by rw [t5, k1, epn])
  by_cases z : i30.toInt = 0
  · exact both _ _ _ _ _ _ (Or.inl (by omega))
  · obtain ⟨j17, j18, j19, j20, j21, j22, j23, j24, j25, j26, e1, e2, qtn, qtc, d28, d29, g1, g2, s1, s2, s3, s4⟩ := rk_of (day := day) (i17 := i17) (i18 := i18) (i19 := i19) (i20 := i20) (i21 := i21) (i22 := i22) (i23 := i23) (i24 := i24) (i25 := i25) (i26 := i26) (a47 := a47) (a48 := a48) (ptn := ptn) (ptc := ptc) (b28 := b28) (b29 := b29) (b59 := b59) (b60 := b60) hv h6 h9 hV hM hP hL hK hR hC hRN hF h10 hT hO z
    rw [s1, s2]
    exact both e1 e2 d28 d29 g1 g2 (Or.inr ⟨s3, s4⟩)
end ONR
