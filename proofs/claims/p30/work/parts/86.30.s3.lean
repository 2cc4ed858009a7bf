/-! LOOK, on both sides -/
theorem sI_ext {x y : Int32} (h : ∀ k, k < 32 → (bitI x k = true ↔ bitI y k = true)) : x = y := by
  apply Int32.toBitVec_inj.mp
  apply BitVec.eq_of_getLsbD_eq
  intro k hk
  have := h k hk
  unfold bitI at this
  cases e1 : x.toBitVec.getLsbD k <;> cases e2 : y.toBitVec.getLsbD k <;> simp_all
theorem sI_m1 : ∀ k : Fin 32, bitI (-1) k.1 = true := by decide
theorem sI_xor (x z : Int32) (k : Nat) : bitI (x ^^^ z) k = (bitI x k ^^ bitI z k) := BitVec.getLsbD_xor
theorem sI_nsh {y : Int32} (h0 : 0 ≤ y.toInt) (h1 : y.toInt < 32) {k : Nat} (hk : k < 32) : (bitI (((1 : Int32) <<< (y &&& 31)) ^^^ (-1)) k = true ↔ y.toInt ≠ (k : Int)) := by
  rw [sI_xor, qI_sh h0 h1, sI_m1 ⟨k, hk⟩]
  by_cases e : y.toInt.toNat = k
  · rw [decide_eq_true e]
    exact ⟨fun q => (by cases q), fun q => absurd (by omega) q⟩
  · rw [decide_eq_false e]
    exact ⟨fun _ => by omega, fun _ => rfl⟩
theorem sI_low : ∀ n : Fin 9, ∀ k : Fin 32, bitI (((1 : Int32) <<< ((Int32.ofNat n.1) &&& 31)) - 1) k.1 = decide (k.1 < n.1) := by decide +kernel
theorem lb_loop {r N k : Nat} {ogn : Nat → Nat → Nat} {ogc : Nat → Nat → Nat → Int32} (hN : ogn 4 r = N) (hN2 : N ≤ 12) (hk : k < 32) (hu : ∀ i, i < N → 0 ≤ (ogc 5 r i).toInt ∧ (ogc 5 r i).toInt ≤ 8) : ∀ (m f X : Nat) (x a : Int32), x.toInt = (X : Int) → N = X + m → m < f →
    (bitI (f_x7_leftBits_j7 r ogn ogc f a x) k = true ↔ bitI a k = true ∧ ∀ i, X ≤ i → i < N → (ogc 5 r i).toInt ≠ (k : Int)) := by
  have eN : (Int32.ofNat (ogn 4 r)).toInt = (N : Int) := by rw [hN]; exact nI_toInt (by omega)
  intro m
  induction m with
  | zero =>
    intro f X x a hx hm hf
    obtain ⟨f, rfl⟩ : ∃ w, f = w + 1 := ⟨f - 1, by omega⟩
    rw [S_x7_leftBits_j7, if_pos (show x.toInt ≥ (Int32.ofNat (ogn 4 r)).toInt by omega)]
    exact ⟨fun q => ⟨q, fun i h1 h2 => by omega⟩, fun q => q.1⟩
  | succ m ih =>
    intro f X x a hx hm hf
    obtain ⟨f, rfl⟩ : ∃ w, f = w + 1 := ⟨f - 1, by omega⟩
    have hz : (x + Int32.ofInt 1).toInt = ((X + 1 : Nat) : Int) := by
      have := toInt_add hx co1 (by omega) (by omega)
      omega
    have hX := hu X (by omega)
    rw [S_x7_leftBits_j7, if_neg (show ¬ x.toInt ≥ (Int32.ofNat (ogn 4 r)).toInt by omega), nc hx, ih f (X + 1) _ _ hz (by omega) (by omega), qI_and, Bool.and_eq_true, sI_nsh hX.1 (by omega) hk]
    constructor
    · rintro ⟨⟨g1, g2⟩, g3⟩
      refine ⟨g1, fun i h1 h2 => ?_⟩
      by_cases e : i = X
      · subst e; exact g2
      · exact g3 i (by omega) h2
    · rintro ⟨g1, g3⟩
      exact ⟨⟨g1, g3 X (Nat.le_refl _) (by omega)⟩, fun i h1 h2 => g3 i (by omega) h2⟩
theorem wo_loop {p0 t : Int32} {r N : Nat} {b40 b41 b42 : Nat → Int32} (hr : p0.toInt = (r : Int)) (hr2 : r < 200) (hN : (b40 r).toInt = (N : Int)) (hN2 : N ≤ 12) (hw : ∀ i, i < N → 0 ≤ (b41 (12 * r + i)).toInt) : ∀ (m f X : Nat) (x : Int32), x.toInt = ((12 * r + X : Nat) : Int) → N = X + m → m < f →
    ((f_m12_wordOf_j2 p0 t (0 : Int32) b40 b41 b42 f (0 : Int32) x).toInt = -1 ∧ ∀ i, X ≤ i → i < N → (b42 (12 * r + i)).toInt ≠ t.toInt) ∨ (0 ≤ (f_m12_wordOf_j2 p0 t (0 : Int32) b40 b41 b42 f (0 : Int32) x).toInt ∧ ∃ i, X ≤ i ∧ i < N ∧ (b42 (12 * r + i)).toInt = t.toInt) := by
  have e0 : (((12 : Int32) * p0) + (b40 p0.toNatClampNeg)).toInt = ((12 * r + N : Nat) : Int) := by
    have e1 := toInt_mul sc12 hr rfl (by omega) (by omega)
    rw [nc hr]
    have e2 := toInt_add e1 hN (by omega) (by omega)
    omega
  intro m
  induction m with
  | zero =>
    intro f X x hx hm hf
    obtain ⟨f, rfl⟩ : ∃ w, f = w + 1 := ⟨f - 1, by omega⟩
    rw [S_m12_wordOf_j2, if_pos (by omega)]
    exact Or.inl ⟨sm1, fun i h1 h2 => by omega⟩
  | succ m ih =>
    intro f X x hx hm hf
    obtain ⟨f, rfl⟩ : ∃ w, f = w + 1 := ⟨f - 1, by omega⟩
    have hz : (x + Int32.ofInt 1).toInt = ((12 * r + (X + 1) : Nat) : Int) := by
      have := toInt_add hx co1 (by omega) (by omega)
      omega
    rw [S_m12_wordOf_j2, if_neg (by omega), nc hx]
    by_cases e : (b42 (12 * r + X)).toInt = t.toInt
    · rw [if_pos e, if_neg (fun q => q rfl)]
      exact Or.inr ⟨hw X (by omega), X, Nat.le_refl _, by omega, e⟩
    · rw [if_neg e]
      rcases ih f (X + 1) _ hz (by omega) (by omega) with ⟨g1, g2⟩ | ⟨g1, i, g2, g3, g4⟩
      · refine Or.inl ⟨g1, fun i h1 h2 => ?_⟩
        by_cases q : i = X
        · subst q; exact e
        · exact g2 i (by omega) h2
      · exact Or.inr ⟨g1, i, by omega, g3, g4⟩
theorem wo_of {p0 t : Int32} {r N : Nat} {b40 b41 b42 : Nat → Int32} (hr : p0.toInt = (r : Int)) (hr2 : r < 200) (hN : (b40 r).toInt = (N : Int)) (hN2 : N ≤ 12) (hw : ∀ i, i < N → 0 ≤ (b41 (12 * r + i)).toInt) :
    ((F_m12_wordOf p0 t (0 : Int32) b40 b41 b42).toInt = -1 ∧ ∀ i, i < N → (b42 (12 * r + i)).toInt ≠ t.toInt) ∨ (0 ≤ (F_m12_wordOf p0 t (0 : Int32) b40 b41 b42).toInt ∧ ∃ i, i < N ∧ (b42 (12 * r + i)).toInt = t.toInt) := by
  have e : F_m12_wordOf p0 t (0 : Int32) b40 b41 b42 = f_m12_wordOf_j2 p0 t (0 : Int32) b40 b41 b42 2401 (0 : Int32) ((12 : Int32) * p0) := rfl
  have hx : ((12 : Int32) * p0).toInt = ((12 * r + 0 : Nat) : Int) := by
    have := toInt_mul sc12 hr rfl (by omega) (by omega)
    omega
  rw [e]
  rcases wo_loop (t := t) (b42 := b42) hr hr2 hN hN2 hw N 2401 0 _ hx (by omega) (by omega) with ⟨g1, g2⟩ | ⟨g1, i, g2, g3⟩
  · exact Or.inl ⟨g1, fun i hi => g2 i (Nat.zero_le _) hi⟩
  · exact Or.inr ⟨g1, i, g3⟩
theorem lf_loop {p0 : Int32} {r N n k : Nat} {b38 b40 b41 b42 : Nat → Int32} (hr : p0.toInt = (r : Int)) (hr2 : r < 200) (hN : (b40 r).toInt = (N : Int)) (hN2 : N ≤ 12) (hn : (b38 r).toInt = (n : Int)) (hn2 : n ≤ 8) (hw : ∀ i, i < N → 0 ≤ (b41 (12 * r + i)).toInt) (hk : k < 32) : ∀ (m f X : Nat) (x a : Int32), x.toInt = (X : Int) → n = X + m → m < f →
    (bitI (f_m12_leftOf_j1 p0 b38 b40 b41 b42 f a x) k = true ↔ bitI a k = true ∨ (X ≤ k ∧ k < n ∧ ∀ i, i < N → (b42 (12 * r + i)).toInt ≠ (k : Int))) := by
  intro m
  induction m with
  | zero =>
    intro f X x a hx hm hf
    obtain ⟨f, rfl⟩ : ∃ w, f = w + 1 := ⟨f - 1, by omega⟩
    rw [S_m12_leftOf_j1, nc hr, if_pos (by omega)]
    exact ⟨fun q => Or.inl q, fun q => q.elim id (fun w => by omega)⟩
  | succ m ih =>
    intro f X x a hx hm hf
    obtain ⟨f, rfl⟩ : ∃ w, f = w + 1 := ⟨f - 1, by omega⟩
    have hz : (x + Int32.ofInt 1).toInt = ((X + 1 : Nat) : Int) := by
      have := toInt_add hx co1 (by omega) (by omega)
      omega
    rw [S_m12_leftOf_j1, nc hr, if_neg (by omega)]
    rcases wo_of (t := x) (b42 := b42) hr hr2 hN hN2 hw with ⟨w1, w2⟩ | ⟨w1, i0, w2, w3⟩
    · rw [if_neg (fun q => q w1), ih f (X + 1) _ _ hz (by omega) (by omega), qI_or, Bool.or_eq_true, qI_sh (by omega) (by omega), decide_eq_true_eq]
      constructor
      · rintro ((g | g) | g)
        · exact Or.inl g
        · exact Or.inr ⟨by omega, by omega, fun i hi => by have := w2 i hi; omega⟩
        · exact Or.inr ⟨by omega, g.2⟩
      · rintro (g | g)
        · exact Or.inl (Or.inl g)
        · by_cases q : X = k
          · exact Or.inl (Or.inr (by omega))
          · exact Or.inr ⟨by omega, g.2⟩
    · rw [if_pos (show (F_m12_wordOf p0 x (0 : Int32) b40 b41 b42).toInt ≠ -1 by omega), ih f (X + 1) _ _ hz (by omega) (by omega), qI_or, qI_0, Bool.or_false]
      constructor
      · rintro (g | g)
        · exact Or.inl g
        · exact Or.inr ⟨by omega, g.2⟩
      · rintro (g | g)
        · exact Or.inl g
        · by_cases q : X = k
          · exact absurd (show (b42 (12 * r + i0)).toInt = (k : Int) by omega) (g.2.2 i0 w2)
          · exact Or.inr ⟨by omega, g.2⟩
theorem left_of {p0 : Int32} {r : Nat} {i10 : Int32} {og : Nat → Nat → Int32} {ogn : Nat → Nat → Nat} {ogc : Nat → Nat → Nat → Int32} {b33 b34 b36 b37 b38 b39 b40 b41 b42 : Nat → Int32} (hr : p0.toInt = (r : Int)) (hr2 : (r : Int) < i10.toInt) (h10 : i10.toInt ≤ 200) (h : RNC i10 og ogn ogc b33 b34 b36 b37 b38 b39 b40 b41 b42) : F_x7_leftBits r ogn ogc = F_m12_leftOf p0 b38 b40 b41 b42 := by
  obtain ⟨-, ⟨t1, t2, t3⟩, ⟨w1, w2, w3, w4⟩⟩ := h r hr2
  rw [E_x7_leftBits, E_m12_leftOf]
  refine sI_ext (fun k hk => ?_)
  rw [lb_loop rfl w3 hk (fun i hi => by rw [(w4 i hi).2.1]; exact (w4 i hi).2.2.2) (ogn 4 r) 201 0 0 _ c0 (by omega) (by omega), lf_loop hr (by omega) w1 w3 t1 t2 (fun i hi => (w4 i hi).2.2.1.1) hk (ogn 3 r) 9 0 0 0 c0 (by omega) (by omega), qI_0, sI_low ⟨ogn 3 r, by omega⟩ ⟨k, hk⟩, decide_eq_true_eq]
  constructor
  · rintro ⟨g1, g2⟩
    exact Or.inr ⟨Nat.zero_le _, g1, fun i hi => by rw [← (w4 i hi).2.1]; exact g2 i (Nat.zero_le _) hi⟩
  · rintro (g | ⟨-, g1, g2⟩)
    · cases g
    · exact ⟨g1, fun i _ hi => by rw [(w4 i hi).2.1]; exact g2 i hi⟩
theorem R_look {u0 u1 i3 i10 : Int32} {og : Nat → Nat → Int32} {ogn : Nat → Nat → Nat} {ogc : Nat → Nat → Nat → Int32} {b33 b34 b35 b36 b37 b38 b39 b40 b41 b42 b43 b44 b45 b46 : Nat → Int32} (h10 : 0 ≤ i10.toInt ∧ i10.toInt ≤ 200) (h : RNC i10 og ogn ogc b33 b34 b36 b37 b38 b39 b40 b41 b42) (hS : RNS i3 i10 og b34 b35 b43) (hK : KEP i10 og b44 b45 b46) :
    F_x11_look u0 u1 i10 og ogn ogc = F_m12_look u0 u1 i10 b33 b34 b35 b36 b37 b38 b40 b41 b42 b43 b44 b46 := by
  rw [E_x11_look, E_m12_look]
  rcases xat (u := u0) (i10 := i10) with ⟨a1, a⟩ | ⟨r, a1, a2, a⟩
  · rcases mren (u := u0) (i7 := i10) h10.1 with ⟨m1, m⟩ | ⟨m1, m⟩
    · exact absurd m1 a1
    · rw [a, m, if_pos rfl, if_neg n00]
  rcases mren (u := u0) (i7 := i10) h10.1 with ⟨m1, m⟩ | ⟨m1, m⟩
  · rw [a, m, if_neg (Nat.succ_ne_zero r), if_pos y10, Nat.add_sub_cancel]
    have L := left_of a1 a2 h10.2 h
    obtain ⟨⟨q0, q1, q2, q6⟩, -, ⟨w1, w2, w3, w4⟩⟩ := h r a2
    obtain ⟨s7, s8, s1, s2, -⟩ := hS.1 r a2
    have e40 : (((19 : Int32) + ((2 : Int32) * (b40 u0.toNatClampNeg)))).toInt = 19 + 2 * (ogn 4 r : Int) := by
      rw [nc a1]
      have e1 := toInt_mul sc2 w1 rfl (by omega) (by omega)
      have e2 := toInt_add sc19 e1 (by omega) (by omega)
      omega
    have eN := of_n w1 (by omega)
    rw [E_x7_tell, L, eN]
    have k0 := (ix20 a1 (by omega)).2
    have k1 := (ix2 a1 c1 (by omega) (by omega) (i := 1)).2
    rcases mlie (u := u1) sc20 e40 with ⟨g1, g⟩ | ⟨g1, g⟩
    · rw [g, if_neg n10]
      iterate 10 rw [if_neg (by omega)]
      rw [if_pos (show u1.toInt ≥ 20 by omega), E_x7_tellSlot]
      obtain ⟨p, hp⟩ : ∃ p : Nat, u1.toInt = 20 + (p : Int) := ⟨(u1.toInt - 20).toNat, by omega⟩
      have e20 : (u1 - (20 : Int32)).toInt = (p : Int) := by
        have := toInt_sub hp sc20 (by omega) (by omega)
        omega
      have ed : ((u1 - (20 : Int32)) / (2 : Int32)).toInt = ((p / 2 : Nat) : Int) := by
        have := toInt_divc e20 sc2 (by omega) (by omega)
        omega
      have er := toInt_remm e20 sc2 (by omega) (by omega)
      have er2 := toInt_remm (x := u1) rfl sc2 (by omega) (by omega)
      have hi : p / 2 < ogn 4 r := by omega
      rw [E_x7_turnAt, E_x7_wordAt, eN, ix12 a1 ed (by omega) (by omega), nc ed, (w4 _ hi).1, (w4 _ hi).2.1, if_neg (show ¬ ((u1 - (20 : Int32)) / (2 : Int32)).toInt < 0 by omega), if_neg (show ¬ ((u1 - (20 : Int32)) / (2 : Int32)).toInt ≥ (b40 r).toInt by omega), if_neg (show ¬ ((u1 - (20 : Int32)) / (2 : Int32)).toInt < 0 by omega), if_neg (show ¬ ((u1 - (20 : Int32)) / (2 : Int32)).toInt ≥ (b40 r).toInt by omega)]
      by_cases z : p % 2 = 0
      · rw [if_neg (by omega), if_neg (by omega)]
      · rw [if_pos (by omega), if_pos (by omega)]
    · rw [g, if_pos c0, nc a1, k0, k1, q0, q1, q2, q6, s7, s8]
      by_cases z0 : u1.toInt = 0
      · rw [if_pos z0, if_pos z0]
      rw [if_neg z0, if_neg z0]
      by_cases z1 : u1.toInt = 1
      · rw [if_pos z1, if_pos z1]
      rw [if_neg z1, if_neg z1]
      by_cases z2 : u1.toInt = 2
      · rw [if_pos z2, if_pos z2]
      rw [if_neg z2, if_neg z2]
      by_cases z3 : u1.toInt = 3
      · rw [if_pos z3, if_pos z3]
      rw [if_neg z3, if_neg z3]
      by_cases z4 : u1.toInt = 4
      · rw [if_pos z4, if_pos z4]
      rw [if_neg z4, if_neg z4]
      by_cases z5 : u1.toInt = 5
      · rw [if_pos z5, if_pos z5]
      rw [if_neg z5, if_neg z5]
      by_cases z6 : u1.toInt = 6
      · rw [if_pos z6, if_pos z6]
      rw [if_neg z6, if_neg z6]
      by_cases z7 : u1.toInt = 7
      · have e7 : (u1 - (7 : Int32)).toInt = ((0 : Nat) : Int) := by
          have := toInt_sub z7 sc7 (by omega) (by omega)
          omega
        rw [if_pos z7, if_pos z7, nc e7]
        rcases hK (2 * r + 0) (by omega) with ⟨g1, g2⟩ | ⟨g1, g2, -⟩
        · rw [if_neg (fun q => q g1)]
          exact eq_of_toInt (by rw [g2]; rfl)
        · rw [if_pos (show (b46 (2 * r)).toInt ≠ -1 from g1)]
          exact g2
      rw [if_neg z7, if_neg z7]
      by_cases z8 : u1.toInt = 8
      · have e7 : (u1 - (7 : Int32)).toInt = ((1 : Nat) : Int) := by
          have := toInt_sub z8 sc7 (by omega) (by omega)
          omega
        rw [if_pos z8, if_pos z8, nc e7]
        rcases hK (2 * r + 1) (by omega) with ⟨g1, g2⟩ | ⟨g1, g2, -⟩
        · rw [if_neg (fun q => q g1)]
          exact eq_of_toInt (by rw [g2]; rfl)
        · rw [if_pos (show (b46 (2 * r + 1)).toInt ≠ -1 from g1)]
          exact g2
      rw [if_neg z8, if_neg z8]
      by_cases z9 : u1.toInt = 9
      · rw [if_pos z9, if_pos z9]
      rw [if_neg z9, if_neg z9]
      by_cases w : u1.toInt ≥ 20
      · obtain ⟨p, hp⟩ : ∃ p : Nat, u1.toInt = 20 + (p : Int) := ⟨(u1.toInt - 20).toNat, by omega⟩
        have h1 := (i32_all u1).2
        have e20 : (u1 - (20 : Int32)).toInt = (p : Int) := by
          have := toInt_sub hp sc20 (by omega) (by omega)
          omega
        have ed : ((u1 - (20 : Int32)) / (2 : Int32)).toInt = ((p / 2 : Nat) : Int) := by
          have := toInt_divc e20 sc2 (by omega) (by omega)
          omega
        rw [if_pos w, E_x7_tellSlot, E_x7_turnAt, E_x7_wordAt, eN, if_neg (show ¬ ((u1 - (20 : Int32)) / (2 : Int32)).toInt < 0 by omega), if_pos (show ((u1 - (20 : Int32)) / (2 : Int32)).toInt ≥ (b40 r).toInt by omega), if_neg (show ¬ ((u1 - (20 : Int32)) / (2 : Int32)).toInt < 0 by omega), if_pos (show ((u1 - (20 : Int32)) / (2 : Int32)).toInt ≥ (b40 r).toInt by omega)]
        split <;> rfl
      · rw [if_neg w]
  · exact absurd (show 0 ≤ u0.toInt ∧ u0.toInt < i10.toInt by omega) m1
