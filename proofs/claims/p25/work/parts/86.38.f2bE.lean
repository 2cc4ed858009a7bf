section LOOKQ
variable {v day i3 i6 i9 cu : Int32} {a7 a8 a13 a18 a19 a20 a21 a22 a23 a24 a25 a26 b2 b3 b4 b8 b15 b16 b17 b18 b19 b20 b21 b22 b23 b24 b25 b26 b5 : Nat → Int32} {r9n rtn : Nat → Nat} {r9c rtc : Nat → Nat → Int32} {c : Nat}
/-! QUARRELS, as the reference goes through them -/
abbrev RQ := Int32 × Int32 × Int32 × Int32 × (Nat → Int32) × (Nat → Int32)
theorem mq55 {wt x8 z28 x31 : Int32} {p : Nat} {K : Int32 → Int32 → Int32 → Int32 → Int32 → (Nat → Int32) → (Nat → Int32) → RQ} (h9 : 0 ≤ i9.toInt ∧ i9.toInt ≤ 20) (hL : LAW i9 a18 a19 a20 a21 a22 a23 a24 a25 b15 b16 b17 b18 b19 b20 b21 b22) (hC : RCC i9 a21 a26 rtn rtc b23 b24 b25 b26) (hp : x31.toInt = (p : Int)) :
    ∀ (m f q : Nat) (x56 x57 i19 i20 i21 : Int32) (b28 b29 : Nat → Int32), x57.toInt = (q : Int) → 16 * i9.toInt = (q : Int) + m → m < f → 0 ≤ x56.toInt → x56.toInt + m ≤ 2000000 →
    ∃ (y : Int32) (d28 d29 : Nat → Int32), f_m12_quarrelsOf_j55 v wt day i6 i9 b2 b3 b4 b8 b15 b16 b17 b18 b19 b20 b21 b22 b23 b24 b25 b26 x8 z28 x31 K f x56 x57 i19 i20 i21 b28 b29 = K y (x31 + Int32.ofInt 1) (fnd wt.toInt x56.toInt (secL (mtB b19 b20 b21) b22 z28 x8 p (WF (hwB 119 v day i6 i9 b2 b3 b4 b8 b15 b16 b17 b18 b19 b20 b21 b23 b24 b25 b26) m q)) (i19, i20, i21)).1 (fnd wt.toInt x56.toInt (secL (mtB b19 b20 b21) b22 z28 x8 p (WF (hwB 119 v day i6 i9 b2 b3 b4 b8 b15 b16 b17 b18 b19 b20 b21 b23 b24 b25 b26) m q)) (i19, i20, i21)).2.1 (fnd wt.toInt x56.toInt (secL (mtB b19 b20 b21) b22 z28 x8 p (WF (hwB 119 v day i6 i9 b2 b3 b4 b8 b15 b16 b17 b18 b19 b20 b21 b23 b24 b25 b26) m q)) (i19, i20, i21)).2.2 d28 d29 ∧ y.toInt = x56.toInt + (secL (mtB b19 b20 b21) b22 z28 x8 p (WF (hwB 119 v day i6 i9 b2 b3 b4 b8 b15 b16 b17 b18 b19 b20 b21 b23 b24 b25 b26) m q)).length := by
  have e16 : ((16 : Int32) * i9).toInt = 16 * i9.toInt := toInt_mul c16i rfl rfl (by omega) (by omega)
  have o1 := co1
  intro m
  induction m with
  | zero =>
    intro f q x56 x57 i19 i20 i21 b28 b29 hq hm hf _ _
    obtain ⟨f, rfl⟩ : ∃ w, f = w + 1 := ⟨f - 1, by omega⟩
    rw [S_m12_quarrelsOf_j55, if_pos (by omega)]
    exact ⟨x56, b28, b29, rfl, by show _ = x56.toInt + ((0 : Nat) : Int); omega⟩
  | succ m ih =>
    intro f q x56 x57 i19 i20 i21 b28 b29 hq hm hf h0 hb
    obtain ⟨f, rfl⟩ : ∃ w, f = w + 1 := ⟨f - 1, by omega⟩
    have hx1 := toInt_add hq co1 (by omega) (by omega)
    have hx2 := toInt_add (x := x56) rfl co1 (by omega) (by omega)
    rw [S_m12_quarrelsOf_j55, if_neg (by omega)]
    have A := asked_of (v := v) (day := day) (i6 := i6) (b2 := b2) (b3 := b3) (b4 := b4) (b8 := b8) (x := z28) h9 hL hC hq (by omega) b28 b29
    by_cases w : hwB 119 v day i6 i9 b2 b3 b4 b8 b15 b16 b17 b18 b19 b20 b21 b23 b24 b25 b26 q = true
    · rw [WF_y w]
      by_cases w2 : mtB b19 b20 b21 q z28 = true
      · rw [A.trans (if_pos ⟨w, w2⟩), if_neg n10, nc hp, nc hq]
        by_cases w3 : (b22 p).toInt ≠ (b22 q).toInt
        · rw [if_pos w3, secL_y ⟨w2, fun z => w3 z.symm⟩]
          have e : ∀ L : List I3, ((Int32.ofNat p, x8, Int32.ofNat q) :: L).length = L.length + 1 := fun _ => rfl
          by_cases w4 : x56.toInt ≠ wt.toInt
          · rw [if_pos w4]
            obtain ⟨y, d28, d29, r1, r2⟩ := ih f (q + 1) (x56 + Int32.ofInt 1) (x57 + Int32.ofInt 1) i19 i20 i21 (F_m12_isAsked x57 v z28 day i6 i9 b2 b3 b4 b8 b15 b16 b17 b18 b19 b20 b21 b23 b24 b25 b26 b28 b29).2.1 (F_m12_isAsked x57 v z28 day i6 i9 b2 b3 b4 b8 b15 b16 b17 b18 b19 b20 b21 b23 b24 b25 b26 b28 b29).2.2 (by omega) (by omega) (by omega) (by omega) (by omega)
            have e2 : (x56 + Int32.ofInt 1).toInt = x56.toInt + 1 := by omega
            rw [e2] at r1 r2
            refine ⟨y, d28, d29, ?_, by rw [e]; omega⟩
            rw [r1]
            show _ = K y (x31 + Int32.ofInt 1) (fnd wt.toInt (x56.toInt + 1) _ (if x56.toInt = wt.toInt then _ else (i19, i20, i21))).1 (fnd wt.toInt (x56.toInt + 1) _ (if x56.toInt = wt.toInt then _ else (i19, i20, i21))).2.1 (fnd wt.toInt (x56.toInt + 1) _ (if x56.toInt = wt.toInt then _ else (i19, i20, i21))).2.2 d28 d29
            rw [if_neg w4]
          · rw [if_neg w4]
            obtain ⟨y, d28, d29, r1, r2⟩ := ih f (q + 1) (x56 + Int32.ofInt 1) (x57 + Int32.ofInt 1) x31 x8 x57 (F_m12_isAsked x57 v z28 day i6 i9 b2 b3 b4 b8 b15 b16 b17 b18 b19 b20 b21 b23 b24 b25 b26 b28 b29).2.1 (F_m12_isAsked x57 v z28 day i6 i9 b2 b3 b4 b8 b15 b16 b17 b18 b19 b20 b21 b23 b24 b25 b26 b28 b29).2.2 (by omega) (by omega) (by omega) (by omega) (by omega)
            have e2 : (x56 + Int32.ofInt 1).toInt = x56.toInt + 1 := by omega
            rw [e2] at r1 r2
            refine ⟨y, d28, d29, ?_, by rw [e]; omega⟩
            rw [r1]
            show _ = K y (x31 + Int32.ofInt 1) (fnd wt.toInt (x56.toInt + 1) _ (if x56.toInt = wt.toInt then (Int32.ofNat p, x8, Int32.ofNat q) else (i19, i20, i21))).1 (fnd wt.toInt (x56.toInt + 1) _ (if x56.toInt = wt.toInt then (Int32.ofNat p, x8, Int32.ofNat q) else (i19, i20, i21))).2.1 (fnd wt.toInt (x56.toInt + 1) _ (if x56.toInt = wt.toInt then (Int32.ofNat p, x8, Int32.ofNat q) else (i19, i20, i21))).2.2 d28 d29
            rw [if_pos (show x56.toInt = wt.toInt by omega), ← oN hp, ← oN hq]
        · rw [if_neg w3, secL_n (fun z => z.2 (by omega))]
          obtain ⟨y, d28, d29, r1, r2⟩ := ih f (q + 1) x56 (x57 + Int32.ofInt 1) i19 i20 i21 (F_m12_isAsked x57 v z28 day i6 i9 b2 b3 b4 b8 b15 b16 b17 b18 b19 b20 b21 b23 b24 b25 b26 b28 b29).2.1 (F_m12_isAsked x57 v z28 day i6 i9 b2 b3 b4 b8 b15 b16 b17 b18 b19 b20 b21 b23 b24 b25 b26 b28 b29).2.2 (by omega) (by omega) (by omega) (by omega) (by omega)
          exact ⟨y, d28, d29, r1, r2⟩
      · rw [A.trans (if_neg (fun z => w2 z.2)), if_pos y00, secL_n (fun z => w2 z.1)]
        obtain ⟨y, d28, d29, r1, r2⟩ := ih f (q + 1) x56 (x57 + Int32.ofInt 1) i19 i20 i21 (F_m12_isAsked x57 v z28 day i6 i9 b2 b3 b4 b8 b15 b16 b17 b18 b19 b20 b21 b23 b24 b25 b26 b28 b29).2.1 (F_m12_isAsked x57 v z28 day i6 i9 b2 b3 b4 b8 b15 b16 b17 b18 b19 b20 b21 b23 b24 b25 b26 b28 b29).2.2 (by omega) (by omega) (by omega) (by omega) (by omega)
        exact ⟨y, d28, d29, r1, r2⟩
    · rw [WF_n w, A.trans (if_neg (fun z => w z.1)), if_pos y00]
      obtain ⟨y, d28, d29, r1, r2⟩ := ih f (q + 1) x56 (x57 + Int32.ofInt 1) i19 i20 i21 (F_m12_isAsked x57 v z28 day i6 i9 b2 b3 b4 b8 b15 b16 b17 b18 b19 b20 b21 b23 b24 b25 b26 b28 b29).2.1 (F_m12_isAsked x57 v z28 day i6 i9 b2 b3 b4 b8 b15 b16 b17 b18 b19 b20 b21 b23 b24 b25 b26 b28 b29).2.2 (by omega) (by omega) (by omega) (by omega) (by omega)
      exact ⟨y, d28, d29, r1, r2⟩
theorem secL_len {mt : Nat → Int32 → Bool} {vl : Nat → Int32} {tk t : Int32} {p : Nat} : ∀ (R : List Nat), (secL mt vl tk t p R).length ≤ R.length := by
  intro R
  induction R with
  | nil => exact Nat.le_refl _
  | cons q R ih =>
    by_cases w : mt q tk = true ∧ ¬ (vl q).toInt = (vl p).toInt
    · rw [secL_y w]; show (secL mt vl tk t p R).length + 1 ≤ R.length + 1; omega
    · rw [secL_n w]; show _ ≤ R.length + 1; omega
theorem mq29 {wt x8 z28 : Int32} {K : Int32 → Int32 → Int32 → Int32 → Int32 → (Nat → Int32) → (Nat → Int32) → RQ} (h9 : 0 ≤ i9.toInt ∧ i9.toInt ≤ 20) (hL : LAW i9 a18 a19 a20 a21 a22 a23 a24 a25 b15 b16 b17 b18 b19 b20 b21 b22) (hC : RCC i9 a21 a26 rtn rtc b23 b24 b25 b26) :
    ∀ (m f p : Nat) (x30 x31 i19 i20 i21 : Int32) (b28 b29 : Nat → Int32), x31.toInt = (p : Int) → 16 * i9.toInt = (p : Int) + m → m < f → 0 ≤ x30.toInt → x30.toInt + 320 * m ≤ 2000000 →
    ∃ (y : Int32) (d28 d29 : Nat → Int32), f_m12_quarrelsOf_j29 v wt day i6 i9 b2 b3 b4 b8 b15 b16 b17 b18 b19 b20 b21 b22 b23 b24 b25 b26 x8 K z28 f x30 x31 i19 i20 i21 b28 b29 = K y (x8 + Int32.ofInt 1) (fnd wt.toInt x30.toInt (frsL (mtB b19 b20 b21) b22 z28 x8 (WF (hwB 119 v day i6 i9 b2 b3 b4 b8 b15 b16 b17 b18 b19 b20 b21 b23 b24 b25 b26) m p)) (i19, i20, i21)).1 (fnd wt.toInt x30.toInt (frsL (mtB b19 b20 b21) b22 z28 x8 (WF (hwB 119 v day i6 i9 b2 b3 b4 b8 b15 b16 b17 b18 b19 b20 b21 b23 b24 b25 b26) m p)) (i19, i20, i21)).2.1 (fnd wt.toInt x30.toInt (frsL (mtB b19 b20 b21) b22 z28 x8 (WF (hwB 119 v day i6 i9 b2 b3 b4 b8 b15 b16 b17 b18 b19 b20 b21 b23 b24 b25 b26) m p)) (i19, i20, i21)).2.2 d28 d29 ∧ y.toInt = x30.toInt + (frsL (mtB b19 b20 b21) b22 z28 x8 (WF (hwB 119 v day i6 i9 b2 b3 b4 b8 b15 b16 b17 b18 b19 b20 b21 b23 b24 b25 b26) m p)).length ∧ y.toInt ≤ x30.toInt + 320 * m := by
  have e16 : ((16 : Int32) * i9).toInt = 16 * i9.toInt := toInt_mul c16i rfl rfl (by omega) (by omega)
  have o1 := co1
  have e1' := c1
  intro m
  induction m with
  | zero =>
    intro f p x30 x31 i19 i20 i21 b28 b29 hp hm hf _ _
    obtain ⟨f, rfl⟩ : ∃ w, f = w + 1 := ⟨f - 1, by omega⟩
    rw [S_m12_quarrelsOf_j29, if_pos (by omega)]
    exact ⟨x30, b28, b29, rfl, by show _ = x30.toInt + ((0 : Nat) : Int); omega, by omega⟩
  | succ m ih =>
    intro f p x30 x31 i19 i20 i21 b28 b29 hp hm hf h0 hb
    obtain ⟨f, rfl⟩ : ∃ w, f = w + 1 := ⟨f - 1, by omega⟩
    have hx1 := toInt_add hp co1 (by omega) (by omega)
    have hp1 := suc_of hp (by omega)
    rw [S_m12_quarrelsOf_j29, if_neg (by omega)]
    have A := asked_of (v := v) (day := day) (i6 := i6) (b2 := b2) (b3 := b3) (b4 := b4) (b8 := b8) (x := z28) h9 hL hC hp (by omega) b28 b29
    by_cases w : hwB 119 v day i6 i9 b2 b3 b4 b8 b15 b16 b17 b18 b19 b20 b21 b23 b24 b25 b26 p = true
    · rw [WF_y w]
      by_cases w2 : mtB b19 b20 b21 p z28 = true
      · rw [A.trans (if_pos ⟨w, w2⟩), if_pos y10, frsL_y w2]
        obtain ⟨y, d28, d29, r1, r2⟩ := mq55 (v := v) (day := day) (i6 := i6) (b2 := b2) (b3 := b3) (b4 := b4) (b8 := b8) (wt := wt) (x8 := x8) (z28 := z28) (x31 := x31) (p := p) (K := f_m12_quarrelsOf_j29 v wt day i6 i9 b2 b3 b4 b8 b15 b16 b17 b18 b19 b20 b21 b22 b23 b24 b25 b26 x8 K z28 f) h9 hL hC hp m 320 (p + 1) x30 (x31 + 1) i19 i20 i21 (F_m12_isAsked x31 v z28 day i6 i9 b2 b3 b4 b8 b15 b16 b17 b18 b19 b20 b21 b23 b24 b25 b26 b28 b29).2.1 (F_m12_isAsked x31 v z28 day i6 i9 b2 b3 b4 b8 b15 b16 b17 b18 b19 b20 b21 b23 b24 b25 b26 b28 b29).2.2 hp1 (by omega) (by omega) h0 (by omega)
        have hl := secL_len (mt := mtB b19 b20 b21) (vl := b22) (tk := z28) (t := x8) (p := p) (WF (hwB 119 v day i6 i9 b2 b3 b4 b8 b15 b16 b17 b18 b19 b20 b21 b23 b24 b25 b26) m (p + 1))
        have hl2 := WF_len (hw := hwB 119 v day i6 i9 b2 b3 b4 b8 b15 b16 b17 b18 b19 b20 b21 b23 b24 b25 b26) m (p + 1)
        rw [r1]
        generalize secL (mtB b19 b20 b21) b22 z28 x8 p (WF (hwB 119 v day i6 i9 b2 b3 b4 b8 b15 b16 b17 b18 b19 b20 b21 b23 b24 b25 b26) m (p + 1)) = A1 at r2 hl ⊢
        obtain ⟨y2, c28, c29, s1, s2, s3⟩ := ih f (p + 1) y (x31 + Int32.ofInt 1) (fnd wt.toInt x30.toInt A1 (i19, i20, i21)).1 (fnd wt.toInt x30.toInt A1 (i19, i20, i21)).2.1 (fnd wt.toInt x30.toInt A1 (i19, i20, i21)).2.2 d28 d29 (by omega) (by omega) (by omega) (by omega) (by omega)
        generalize frsL (mtB b19 b20 b21) b22 z28 x8 (WF (hwB 119 v day i6 i9 b2 b3 b4 b8 b15 b16 b17 b18 b19 b20 b21 b23 b24 b25 b26) m (p + 1)) = A2 at s1 s2 ⊢
        have e : ((A1 ++ A2).length : Int) = A1.length + A2.length := by rw [List.length_append]; omega
        refine ⟨y2, c28, c29, ?_, by rw [e]; omega, by omega⟩
        rw [s1, fnd_app, r2]
      · rw [A.trans (if_neg (fun z => w2 z.2)), if_neg n00, frsL_n w2]
        obtain ⟨y, d28, d29, r1, r2, r3⟩ := ih f (p + 1) x30 (x31 + Int32.ofInt 1) i19 i20 i21 (F_m12_isAsked x31 v z28 day i6 i9 b2 b3 b4 b8 b15 b16 b17 b18 b19 b20 b21 b23 b24 b25 b26 b28 b29).2.1 (F_m12_isAsked x31 v z28 day i6 i9 b2 b3 b4 b8 b15 b16 b17 b18 b19 b20 b21 b23 b24 b25 b26 b28 b29).2.2 (by omega) (by omega) (by omega) (by omega) (by omega)
        exact ⟨y, d28, d29, r1, r2, by omega⟩
    · rw [WF_n w, A.trans (if_neg (fun z => w z.1)), if_neg n00]
      obtain ⟨y, d28, d29, r1, r2, r3⟩ := ih f (p + 1) x30 (x31 + Int32.ofInt 1) i19 i20 i21 (F_m12_isAsked x31 v z28 day i6 i9 b2 b3 b4 b8 b15 b16 b17 b18 b19 b20 b21 b23 b24 b25 b26 b28 b29).2.1 (F_m12_isAsked x31 v z28 day i6 i9 b2 b3 b4 b8 b15 b16 b17 b18 b19 b20 b21 b23 b24 b25 b26 b28 b29).2.2 (by omega) (by omega) (by omega) (by omega) (by omega)
      exact ⟨y, d28, d29, r1, r2, by omega⟩
end LOOKQ
