/-! VOTES, on both sides -/
def MEM (i4 i6 i7 : Int32) (a15 b10 b11 : Nat → Int32) : Prop :=
  (∀ s : Nat, bitI i4 s = true ↔ s < 24 ∧ (s : Int) < i7.toInt ∧ (b11 s).toInt ≠ 0) ∧ (∀ c s : Nat, c < 6 → (bitI (a15 c) s = true ↔ s < 24 ∧ (s : Int) < i7.toInt ∧ (b10 s).toInt = (c : Int))) ∧ ∀ s : Nat, (s : Int) < i7.toInt → 0 ≤ (b10 s).toInt ∧ (b10 s).toInt < i6.toInt
theorem nv_bit {i8 : Int32} {b12 : Nat → Int32} {s : Nat} (h : VDS i8 b12) (hs : s < 24) : bitI (i8 ^^^ (-1 : Int32)) s = true ↔ (b12 s).toInt = 0 := by
  rw [sI_xor, sI_m1 ⟨s, by omega⟩]
  have q := h s hs
  by_cases e : (b12 s).toInt = 0
  · have : bitI i8 s = false := by
      cases h1 : bitI i8 s with
      | false => rfl
      | true => exact absurd e (q.mp h1)
    rw [this]
    exact ⟨fun _ => e, fun _ => rfl⟩
  · rw [q.mpr e]
    exact ⟨fun w => (by cases w), fun w => absurd w e⟩
theorem st_of {r : Nat} {og : Nat → Nat → Int32} {b35 : Nat → Int32} (h : og 7 r = b35 r) : ((b35 r).toInt = 0 ∧ F_x7_stage r og = 0) ∨ ((b35 r).toInt ≠ 0 ∧ F_x7_stage r og = 1) := by
  rw [E_x7_stage, h]
  by_cases e : (b35 r).toInt = 0
  · rw [if_neg (fun q => q e)]; exact Or.inl ⟨e, rfl⟩
  · rw [if_pos e]; exact Or.inr ⟨e, rfl⟩
/-- whose votes count -/
theorem vot_bit {r s : Nat} {S i3 i4 i6 i7 i8 : Int32} {a7 a13 a15 b2 b8 b10 b11 b12 b34 b35 : Nat → Int32} {og : Nat → Nat → Int32} (hS : S.toInt = (s : Int)) (hs : s < 24) (h1 : og 1 r = b34 r) (h7 : og 7 r = b35 r) (hv : 0 ≤ (b34 r).toInt ∧ (b34 r).toInt < i3.toInt) (hV : VRS i3 a7 b2) (hP : PPL i6 a13 b8) (h6 : 0 ≤ i6.toInt ∧ i6.toInt ≤ 6) (hM : MEM i4 i6 i7 a15 b10 b11) (hD : VDS i8 b12) :
    bitI (F_x11_votersOf r i3 i4 i6 i8 a7 a13 a15 og) s = true ↔ (s : Int) < i7.toInt ∧ (F_m12_isOfStage S (b35 r) (b34 r) i6 b2 b8 b10 b11 b12).toInt ≠ 0 := by
  obtain ⟨V, hV0⟩ : ∃ V : Nat, (b34 r).toInt = (V : Int) := ⟨(b34 r).toInt.toNat, by omega⟩
  obtain ⟨v1, v2, v3⟩ := hV V (by omega)
  have eb : F_x9_bookOf (b34 r) i3 a7 = b2 (b34 r).toNatClampNeg := by
    rcases xhas (u := b34 r) (i3 := i3) with ⟨_, h⟩ | ⟨g1, _⟩
    · rw [E_x9_bookOf, h, if_neg n10, nc hV0, v1]
    · exact absurd hv g1
  have ec : F_x4_companyOf (b2 (b34 r).toNatClampNeg) i6 a13 = F_m12_companyOf (b34 r) i6 b2 b8 := com_of hP (by rw [nc hV0]; exact ⟨v2, v3⟩) h6
  have nv := nv_bit hD hs
  rw [E_x11_votersOf, E_x4_voters, E_x7_verseNumber, h1, eb, ec, E_m12_isOfStage, nc hS]
  generalize F_m12_companyOf (b34 r) i6 b2 b8 = C
  rcases st_of (og := og) (b35 := b35) h7 with ⟨e, e1⟩ | ⟨e, e1⟩
  · rw [e1, if_pos (show (0 : Int32).toInt ≠ 1 by decide)]
    rcases xcom (u := C) (i6 := i6) with ⟨k1, k⟩ | ⟨k1, k⟩
    · obtain ⟨c, hc⟩ : ∃ c : Nat, C.toInt = (c : Int) := ⟨C.toInt.toNat, by omega⟩
      rw [k, if_neg n10, qI_and, Bool.and_eq_true, nv, nc hc, hM.2.1 c s (by omega)]
      by_cases w : (b12 s).toInt = 0
      · rw [if_neg (fun q => q w), if_neg (fun q => q e)]
        by_cases w2 : (b10 s).toInt = C.toInt
        · rw [if_neg (fun q => q w2)]
          exact ⟨fun q => ⟨q.1.2.1, y10⟩, fun q => ⟨⟨hs, q.1, by omega⟩, w⟩⟩
        · rw [if_pos w2]
          exact ⟨fun q => absurd (show (b10 s).toInt = C.toInt by omega) w2, fun q => absurd y00 q.2⟩
      · rw [if_pos w]
        exact ⟨fun q => absurd q.2 w, fun q => absurd y00 q.2⟩
    · rw [k, if_pos y00, qI_0]
      refine ⟨fun q => (by cases q), fun q => ?_⟩
      have := hM.2.2 s q.1
      by_cases w : (b12 s).toInt = 0
      · rw [if_neg (fun q => q w), if_neg (fun q => q e), if_pos (by omega)] at q
        exact absurd y00 q.2
      · rw [if_pos w] at q
        exact absurd y00 q.2
  · rw [e1, if_neg (show ¬ ((1 : Int32).toInt ≠ 1) from fun q => q rfl), qI_and, Bool.and_eq_true, nv, hM.1 s]
    by_cases w : (b12 s).toInt = 0
    · rw [if_neg (fun q => q w), if_pos e]
      by_cases w2 : (b11 s).toInt = 0
      · rw [if_pos w2]
        exact ⟨fun q => absurd w2 q.1.2.2, fun q => absurd y00 q.2⟩
      · rw [if_neg w2]
        exact ⟨fun q => ⟨q.1.2.1, y10⟩, fun q => ⟨⟨hs, q.1, w2⟩, w⟩⟩
    · rw [if_pos w]
      exact ⟨fun q => absurd q.2 w, fun q => absurd y00 q.2⟩
theorem vot_hi {r s : Nat} {i3 i4 i6 i7 i8 : Int32} {a7 a13 a15 b10 b11 : Nat → Int32} {og : Nat → Nat → Int32} (hs : 24 ≤ s) (h6 : i6.toInt ≤ 6) (hM : MEM i4 i6 i7 a15 b10 b11) : bitI (F_x11_votersOf r i3 i4 i6 i8 a7 a13 a15 og) s = false := by
  rw [E_x11_votersOf, E_x4_voters]
  generalize F_x7_stage r og = st
  generalize F_x4_companyOf (F_x9_bookOf (F_x7_verseNumber r og) i3 a7) i6 a13 = C
  by_cases e : st.toInt ≠ 1
  · rw [if_pos e]
    rcases xcom (u := C) (i6 := i6) with ⟨k1, k⟩ | ⟨k1, k⟩
    · obtain ⟨c, hc⟩ : ∃ c : Nat, C.toInt = (c : Int) := ⟨C.toInt.toNat, by omega⟩
      rw [k, if_neg n10, qI_and, nc hc]
      cases h : bitI (a15 c) s with
      | false => rfl
      | true => exact absurd ((hM.2.1 c s (by omega)).mp h).1 (by omega)
    · rw [k, if_pos y00, qI_0]
  · rw [if_neg e, qI_and]
    cases h : bitI i4 s with
    | false => rfl
    | true => exact absurd ((hM.1 s).mp h).1 (by omega)
theorem open_of {u i3 i10 : Int32} {r : Nat} {og : Nat → Nat → Int32} {b34 b35 b43 : Nat → Int32} (h10 : 0 ≤ i10.toInt) (hu : u.toInt = (r : Int)) (hr : (r : Int) < i10.toInt) (hS : RNS i3 i10 og b34 b35 b43) : ((b35 r).toInt ≤ 1 ∧ F_x7_isUnderVote r og = 1 ∧ F_m12_isOpen u i10 b35 = 1) ∨ (1 < (b35 r).toInt ∧ F_x7_isUnderVote r og = 0 ∧ F_m12_isOpen u i10 b35 = 0) := by
  obtain ⟨s7, -, s1, -⟩ := hS.1 r hr
  rw [E_x7_isUnderVote, E_m12_isOpen, s7, nc hu]
  rcases mren (u := u) (i7 := i10) h10 with ⟨m1, m⟩ | ⟨m1, m⟩
  · rw [m, if_neg n10]
    by_cases e : (b35 r).toInt = 0
    · rw [if_pos e, if_neg (by omega)]; exact Or.inl ⟨by omega, rfl, rfl⟩
    · rw [if_neg e]
      by_cases e2 : (b35 r).toInt = 1
      · rw [if_neg (fun q => q e2), if_neg (by omega)]; exact Or.inl ⟨by omega, rfl, rfl⟩
      · rw [if_pos e2, if_pos (by omega)]; exact Or.inr ⟨by omega, rfl, rfl⟩
  · exact absurd (show 0 ≤ u.toInt ∧ u.toInt < i10.toInt by omega) m1
theorem open_no {u i10 : Int32} {b35 : Nat → Int32} (h10 : 0 ≤ i10.toInt) (hu : ¬ (0 ≤ u.toInt ∧ u.toInt < i10.toInt)) : F_m12_isOpen u i10 b35 = 0 := by
  rw [E_m12_isOpen]
  rcases mren (u := u) (i7 := i10) h10 with ⟨m1, m⟩ | ⟨m1, m⟩
  · exact absurd m1 hu
  · rw [m, if_pos y00]
/-- the company of a verse: the lowest that has its book -/
def CO (i6 : Int32) (b2 b8 : Nat → Int32) (v c : Int32) : Prop := (0 ≤ c.toInt ∧ c.toInt < i6.toInt) ∧ (F_m12_has (b8 c.toNatClampNeg) (b2 v.toNatClampNeg)).toInt ≠ 0 ∧ ∀ d : Nat, (d : Int) < c.toInt → (F_m12_has (b8 d) (b2 v.toNatClampNeg)).toInt = 0
theorem co_loop2 {v i6 : Int32} {b2 b8 : Nat → Int32} : ∀ (m f : Nat) (x : Int32) (k : Nat), x.toInt = (k : Int) → i6.toInt = (k : Int) + m → i6.toInt ≤ 6 → m < f → (∀ d : Nat, d < k → (F_m12_has (b8 d) (b2 v.toNatClampNeg)).toInt = 0) →
    ((f_m12_companyOf_j1 v i6 b2 b8 f x).toInt = -1 ∧ ∀ d : Nat, (d : Int) < i6.toInt → (F_m12_has (b8 d) (b2 v.toNatClampNeg)).toInt = 0) ∨ CO i6 b2 b8 v (f_m12_companyOf_j1 v i6 b2 b8 f x) := by
  intro m
  induction m with
  | zero =>
    intro f x k hx hi _ hf hd
    obtain ⟨f, rfl⟩ : ∃ w, f = w + 1 := ⟨f - 1, by omega⟩
    rw [S_m12_companyOf_j1, if_pos (show x.toInt ≥ i6.toInt by omega)]
    exact Or.inl ⟨sm1, fun d h => hd d (by omega)⟩
  | succ m ih =>
    intro f x k hx hi hi6 hf hd
    obtain ⟨f, rfl⟩ : ∃ w, f = w + 1 := ⟨f - 1, by omega⟩
    have hx1 : (x + Int32.ofInt 1).toInt = ((k + 1 : Nat) : Int) := by
      have := toInt_add hx co1 (by omega) (by omega)
      omega
    rw [S_m12_companyOf_j1, if_neg (show ¬ x.toInt ≥ i6.toInt by omega), nc hx]
    by_cases w : (F_m12_has (b8 k) (b2 v.toNatClampNeg)).toInt = 0
    · rw [if_pos w]
      refine ih f (x + Int32.ofInt 1) (k + 1) hx1 (by omega) hi6 (by omega) (fun d h => ?_)
      by_cases e : d = k
      · subst e; exact w
      · exact hd d (by omega)
    · rw [if_neg w]
      exact Or.inr ⟨by omega, by rw [nc hx]; exact w, fun d h => hd d (by omega)⟩
theorem co_of {v i6 : Int32} {b2 b8 : Nat → Int32} (h6 : 0 ≤ i6.toInt ∧ i6.toInt ≤ 6) : ((F_m12_companyOf v i6 b2 b8).toInt = -1 ∧ ∀ d : Nat, (d : Int) < i6.toInt → (F_m12_has (b8 d) (b2 v.toNatClampNeg)).toInt = 0) ∨ CO i6 b2 b8 v (F_m12_companyOf v i6 b2 b8) := by
  rw [E_m12_companyOf]
  exact co_loop2 i6.toInt.toNat 7 0 0 c0 (by omega) h6.2 (by omega) (fun d h => by omega)
theorem co_uniq {v i6 c : Int32} {b2 b8 : Nat → Int32} (h6 : 0 ≤ i6.toInt ∧ i6.toInt ≤ 6) (h : CO i6 b2 b8 v c) : (F_m12_companyOf v i6 b2 b8).toInt = c.toInt := by
  obtain ⟨h1, h2, h3⟩ := h
  have hc : c.toNatClampNeg = c.toInt.toNat := rfl
  rcases co_of (v := v) (b2 := b2) (b8 := b8) h6 with ⟨-, g⟩ | ⟨g1, g2, g3⟩
  · exact absurd (g c.toInt.toNat (by omega)) (by rw [← hc]; exact h2)
  · have hd : (F_m12_companyOf v i6 b2 b8).toNatClampNeg = (F_m12_companyOf v i6 b2 b8).toInt.toNat := rfl
    rcases Int.lt_trichotomy (F_m12_companyOf v i6 b2 b8).toInt c.toInt with w | w | w
    · exact absurd (h3 (F_m12_companyOf v i6 b2 b8).toInt.toNat (by omega)) (by rw [← hd]; exact g2)
    · exact w
    · exact absurd (g3 c.toInt.toNat (by omega)) (by rw [← hc]; exact h2)
/-- votes that are cast come from those who may -/
def CST (i6 i7 i10 : Int32) (b2 b8 b10 b11 b34 b49 : Nat → Int32) : Prop := ∀ r s : Nat, (r : Int) < i10.toInt → s < 24 → (bitI (b49 (2 * r)) s = true → (s : Int) < i7.toInt ∧ CO i6 b2 b8 (b34 r) (b10 s)) ∧ (bitI (b49 (2 * r + 1)) s = true → (s : Int) < i7.toInt ∧ (b11 s).toInt ≠ 0)
/-- what is kept of a stage that stands is of the votes that are cast -/
def SB (b12 : Nat → Int32) (x47 x48 x49 x50 : Int32) : Prop := ∀ s : Nat, s < 24 → (b12 s).toInt = 0 → bitI x47 s = bitI x49 s ∧ (bitI x47 s = true → bitI x48 s = bitI x50 s)
def STD (i10 : Int32) (b12 b35 b46 b47 b48 b49 b50 : Nat → Int32) : Prop := ∀ r : Nat, (r : Int) < i10.toInt → (((b35 r).toInt = 1 ∨ (b35 r).toInt = 2) → (b46 (2 * r)).toInt ≠ -1 ∧ SB b12 (b47 (2 * r)) (b48 (2 * r)) (b49 (2 * r)) (b50 (2 * r))) ∧ ((b35 r).toInt = 2 → (b46 (2 * r + 1)).toInt ≠ -1 ∧ SB b12 (b47 (2 * r + 1)) (b48 (2 * r + 1)) (b49 (2 * r + 1)) (b50 (2 * r + 1)))
theorem up2_at {og : Nat → Nat → Int32} {f a : Nat} {x : Int32} : up2 og f a x f a = x := up2_same
theorem VOT_put {i10 : Int32} {og : Nat → Nat → Int32} {b49 b50 : Nat → Int32} {k : Nat} {y : Int32} (h : VOT i10 og b49 b50) (hk : (k : Int) < 2 * i10.toInt) (hk4 : 2 * i10.toInt ≤ 400) (x : Int32) : VOT i10 (up2 (up2 og 9 k x) 10 k y) (upd b49 k x) (upd b50 k y) := by
  refine ⟨fun j hj => ?_, fun j hj hj4 => ?_⟩
  · obtain ⟨q1, q2⟩ := h.1 j hj
    by_cases e : j = k
    · subst e
      rw [up2_f (by decide), up2_same, up2_same, upd_s, upd_s]
      exact ⟨rfl, rfl⟩
    · rw [up2_f (by decide), up2_j e, up2_j e, up2_f (by decide), upd_n e, upd_n e]
      exact ⟨q1, q2⟩
  · rw [upd_n (by omega), upd_n (by omega)]
    exact h.2 j hj hj4
def RVT (i6 i7 i10 : Int32) (b2 b8 b10 b11 b12 b34 b35 b46 b47 b48 : Nat → Int32) (og0 : Nat → Nat → Int32) (x : Int32 × (Nat → Nat → Int32)) (m : Int32 × (Nat → Int32) × (Nat → Int32)) : Prop :=
  x.1 = m.1 ∧ VOT i10 x.2 m.2.1 m.2.2 ∧ CST i6 i7 i10 b2 b8 b10 b11 b34 m.2.1 ∧ STD i10 b12 b35 b46 b47 b48 m.2.1 m.2.2 ∧ ∀ f j, f ≠ 9 → f ≠ 10 → x.2 f j = og0 f j
theorem R_vote {u0 u1 u2 i3 i4 i6 i7 i8 i10 : Int32} {a7 a13 a15 b2 b8 b10 b11 b12 b34 b35 b43 b46 b47 b48 b49 b50 : Nat → Int32} {og : Nat → Nat → Int32} (h6 : 0 ≤ i6.toInt ∧ i6.toInt ≤ 6) (h7 : 0 ≤ i7.toInt ∧ i7.toInt ≤ 24) (h10 : 0 ≤ i10.toInt ∧ i10.toInt ≤ 200) (h1 : ∀ r : Nat, (r : Int) < i10.toInt → og 1 r = b34 r) (hV : VRS i3 a7 b2) (hP : PPL i6 a13 b8) (hD : VDS i8 b12) (hM : MEM i4 i6 i7 a15 b10 b11) (hS : RNS i3 i10 og b34 b35 b43) (hT : VOT i10 og b49 b50) (hC : CST i6 i7 i10 b2 b8 b10 b11 b34 b49) (hB : STD i10 b12 b35 b46 b47 b48 b49 b50) :
    RVT i6 i7 i10 b2 b8 b10 b11 b12 b34 b35 b46 b47 b48 og (F_x11_vote u0 u1 u2 i3 i4 i6 i7 i8 i10 a7 a13 a15 og) (F_m12_vote u0 u1 u2 i6 i7 i10 b2 b8 b10 b11 b12 b34 b35 b49 b50) := by
  have no : RVT i6 i7 i10 b2 b8 b10 b11 b12 b34 b35 b46 b47 b48 og ((0 : Int32), og) ((0 : Int32), b49, b50) := ⟨rfl, hT, hC, hB, fun _ _ _ _ => rfl⟩
  have e7 : (i7 - 1).toInt = i7.toInt - 1 := by have := toInt_sub (x := i7) rfl c1 (by omega) (by omega); omega
  rw [E_x11_vote, E_m12_vote]
  rcases xat (u := u1) (i10 := i10) with ⟨a1, a⟩ | ⟨r, a1, a2, a⟩
  · rw [a, if_pos rfl, open_no h10.1 a1, if_pos y00]
    rcases mlie (u := u0) c0 e7 with ⟨g1, g⟩ | ⟨g1, g⟩
    · rw [g, if_neg n10]; exact no
    · rw [g, if_pos y00]; exact no
  rw [a, if_neg (Nat.succ_ne_zero r), Nat.add_sub_cancel]
  obtain ⟨s7, s8, s1, s2, s3⟩ := hS.1 r a2
  rcases open_of h10.1 a1 a2 hS with ⟨o1, o2, o3⟩ | ⟨o1, o2, o3⟩
  · rw [o2, o3, if_neg n10, if_neg n10]
    rcases xsch (u := u0) (i7 := i7) with ⟨k1, k⟩ | ⟨k1, k⟩
    · rcases mlie (u := u0) c0 e7 with ⟨g1, g⟩ | ⟨g1, g⟩
      · obtain ⟨s, hs⟩ : ∃ s : Nat, u0.toInt = (s : Int) := ⟨u0.toInt.toNat, by omega⟩
        have vb := vot_bit (S := u0) hs (by omega) (h1 r a2) s7 s2 hV hP h6 hM hD
        have pw := qI_pow (x := F_x11_votersOf r i3 i4 i6 i8 a7 a13 a15 og) (y := u0) (by omega) (by omega)
        rw [show u0.toInt.toNat = s by omega] at pw
        rw [k, g, if_pos y10, if_neg n10, nc a1]
        by_cases w : (F_m12_isOfStage u0 (b35 r) (b34 r) i6 b2 b8 b10 b11 b12).toInt = 0
        · have z : bitI (F_x11_votersOf r i3 i4 i6 i8 a7 a13 a15 og) s = false := by
            cases q : bitI (F_x11_votersOf r i3 i4 i6 i8 a7 a13 a15 og) s with
            | false => rfl
            | true => exact absurd w (vb.mp q).2
          rw [if_neg (fun q => q (pw.mpr z)), if_neg (fun q => q w)]
          exact no
        · have z : bitI (F_x11_votersOf r i3 i4 i6 i8 a7 a13 a15 og) s = true := vb.mpr ⟨by omega, w⟩
          rw [if_pos (fun q => by rw [pw.mp q] at z; cases z), if_pos w]
          obtain ⟨t, ht, ht1⟩ : ∃ t : Nat, (b35 r).toInt = (t : Int) ∧ t ≤ 1 := ⟨(b35 r).toInt.toNat, by omega, by omega⟩
          have es : (F_x7_stage r og).toNatClampNeg = t := by
            rcases st_of (og := og) (b35 := b35) s7 with ⟨e, e1⟩ | ⟨e, e1⟩
            · rw [e1]; exact nc (show (0 : Int32).toInt = (t : Int) by rw [c0]; omega)
            · rw [e1]; exact nc (show (1 : Int32).toInt = (t : Int) by rw [c1]; omega)
          have hk : ((2 * r + t : Nat) : Int) < 2 * i10.toInt := by omega
          obtain ⟨q9, q10⟩ := hT.1 (2 * r + t) hk
          rw [E_x7_putVote, es, (ix2 a1 ht (by omega) (by omega)).2, q9, up2_f (a := 10) (f := 9) (by decide), q10]
          have go : ∀ y : Int32, RVT i6 i7 i10 b2 b8 b10 b11 b12 b34 b35 b46 b47 b48 og ((1 : Int32), up2 (up2 og 9 (2 * r + t) (b49 (2 * r + t) ||| ((1 : Int32) <<< (u0 &&& 31)))) 10 (2 * r + t) y) ((1 : Int32), upd b49 (2 * r + t) (b49 (2 * r + t) ||| ((1 : Int32) <<< (u0 &&& 31))), upd b50 (2 * r + t) y) := by
            intro y
            refine ⟨rfl, VOT_put hT hk (by omega) _, fun q s' hq hs' => ?_, fun q hq => ?_, fun f j hf hf2 => ?_⟩
            · obtain ⟨c1_, c2_⟩ := hC q s' hq hs'
              have own : ∀ kk : Nat, kk = 2 * r + t → bitI (upd b49 (2 * r + t) (b49 (2 * r + t) ||| ((1 : Int32) <<< (u0 &&& 31))) kk) s' = true → bitI (b49 kk) s' = true ∨ s' = s := by
                intro kk e h
                subst e
                rw [upd_s, qI_or, Bool.or_eq_true, qI_sh (by omega) (by omega), decide_eq_true_eq] at h
                rcases h with h | h
                · exact Or.inl h
                · exact Or.inr (by omega)
              constructor
              · intro h
                have h : bitI (upd b49 (2 * r + t) (b49 (2 * r + t) ||| ((1 : Int32) <<< (u0 &&& 31))) (2 * q)) s' = true := h
                by_cases e : 2 * q = 2 * r + t
                · have er : q = r := by omega
                  subst er
                  have et : t = 0 := by omega
                  rcases own _ e h with h | h
                  · exact c1_ h
                  · subst h
                    refine ⟨by omega, ?_⟩
                    rw [E_m12_isOfStage, nc hs] at w
                    by_cases w1 : (b12 s').toInt = 0
                    · rw [if_neg (fun q => q w1), if_neg (fun z9 => z9 (show (b35 q).toInt = 0 by omega))] at w
                      by_cases w2 : (b10 s').toInt = (F_m12_companyOf (b34 q) i6 b2 b8).toInt
                      · have hb := hM.2.2 s' (by omega)
                        rcases co_of (v := b34 q) (b2 := b2) (b8 := b8) h6 with ⟨g, -⟩ | g
                        · omega
                        · rw [eq_of_toInt w2]; exact g
                      · rw [if_pos w2] at w; exact absurd c0 w
                    · rw [if_pos w1] at w; exact absurd c0 w
                · rw [upd_n e] at h; exact c1_ h
              · intro h
                have h : bitI (upd b49 (2 * r + t) (b49 (2 * r + t) ||| ((1 : Int32) <<< (u0 &&& 31))) (2 * q + 1)) s' = true := h
                by_cases e : 2 * q + 1 = 2 * r + t
                · have er : q = r := by omega
                  subst er
                  have et : t = 1 := by omega
                  rcases own _ e h with h | h
                  · exact c2_ h
                  · subst h
                    refine ⟨by omega, ?_⟩
                    rw [E_m12_isOfStage, nc hs] at w
                    by_cases w1 : (b12 s').toInt = 0
                    · rw [if_neg (fun q => q w1), if_pos (show (b35 q).toInt ≠ 0 by omega)] at w
                      by_cases w2 : (b11 s').toInt = 0
                      · rw [if_pos w2] at w; exact absurd c0 w
                      · exact w2
                    · rw [if_pos w1] at w; exact absurd c0 w
                · rw [upd_n e] at h; exact c2_ h
            · obtain ⟨b1_, b2_⟩ := hB q hq
              refine ⟨fun h => ?_, fun h => ?_⟩
              · have e : 2 * q ≠ 2 * r + t := by
                  intro e
                  have er : q = r := by omega
                  subst er
                  omega
                show _ ∧ SB b12 _ _ (upd b49 (2 * r + t) (b49 (2 * r + t) ||| ((1 : Int32) <<< (u0 &&& 31))) (2 * q)) (upd b50 (2 * r + t) y (2 * q))
                rw [upd_n e, upd_n e]
                exact b1_ h
              · have e : 2 * q + 1 ≠ 2 * r + t := by
                  intro e
                  have er : q = r := by omega
                  subst er
                  omega
                show _ ∧ SB b12 _ _ (upd b49 (2 * r + t) (b49 (2 * r + t) ||| ((1 : Int32) <<< (u0 &&& 31))) (2 * q + 1)) (upd b50 (2 * r + t) y (2 * q + 1))
                rw [upd_n e, upd_n e]
                exact b2_ h
            · show up2 (up2 og 9 _ _) 10 _ _ f j = og f j
              rw [up2_f hf2, up2_f hf]
          by_cases z2 : u2.toInt = 0
          · rw [if_pos z2, if_pos z2]; exact go _
          · rw [if_neg z2, if_neg z2]; exact go _
      · exact absurd g1 (by omega)
    · rcases mlie (u := u0) c0 e7 with ⟨g1, g⟩ | ⟨g1, g⟩
      · exact absurd k1 (by omega)
      · rw [k, g, if_neg n00, if_pos y00]; exact no
  · rw [o2, o3, if_pos y00, if_pos y00]
    rcases mlie (u := u0) c0 e7 with ⟨g1, g⟩ | ⟨g1, g⟩
    · rw [g, if_neg n10]; exact no
    · rw [g, if_pos y00]; exact no
