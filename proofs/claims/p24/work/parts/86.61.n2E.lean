/-! BREACHES: the reference -/
section MBR
variable {v day i3 i6 i9 cu : Int32} {a7 a8 a13 a18 a19 a20 a21 a22 a23 a24 a25 a26 b2 b3 b4 b8 b15 b16 b17 b18 b19 b20 b21 b22 b23 b24 b25 b26 b5 : Nat → Int32} {r9n rtn : Nat → Nat} {r9c rtc : Nat → Nat → Int32} {c : Nat}
abbrev RB := Int32 × Int32 × Int32 × (Nat → Int32) × (Nat → Int32)
theorem mb48 {p0 wt x4 : Int32} {n : Nat} {b38 b39 b40 b41 b42 d28 d29 f32 : Nat → Int32} {tb : Nat → Nat → Bool} {K : Int32 → Int32 → Int32 → Int32 → (Nat → Int32) → (Nat → Int32) → RB} (hc : x4.toInt = (c : Int)) (hn : (b38 p0.toNatClampNeg).toInt = (n : Int)) (hn8 : n ≤ 8)
    (htok : ∀ (t : Nat) (x : Int32), x.toInt = (t : Int) → t < n → b39 (((8 : Int32) * p0) + x).toNatClampNeg = f32 t)
    (htb : ∀ (t : Nat) (x : Int32), x.toInt = (t : Int) → t < n → F_m12_turnsBy p0 x (b22 x4.toNatClampNeg) b40 b41 b42 = if tb c t = true then 1 else 0) :
    ∀ (m f t : Nat) (x49 x50 i19 i20 : Int32), x50.toInt = (t : Int) → n = t + m → m < f → 0 ≤ x49.toInt → x49.toInt + m ≤ 2000000 →
    ∃ y : Int32, f_m12_breachesOf_j48 p0 wt b19 b20 b21 b22 b38 b39 b40 b41 b42 x4 K d28 d29 f x49 x50 i19 i20 = K y (x4 + Int32.ofInt 1) (fnd wt.toInt x49.toInt (brs (mtB b19 b20 b21) tb f32 c m t) (i19, i20)).1 (fnd wt.toInt x49.toInt (brs (mtB b19 b20 b21) tb f32 c m t) (i19, i20)).2 d28 d29 ∧ y.toInt = x49.toInt + (brs (mtB b19 b20 b21) tb f32 c m t).length := by
  have o1 := co1
  intro m
  induction m with
  | zero =>
    intro f t x49 x50 i19 i20 hx hm hf _ _
    obtain ⟨f, rfl⟩ : ∃ w, f = w + 1 := ⟨f - 1, by omega⟩
    rw [S_m12_breachesOf_j48, if_pos (by omega)]
    exact ⟨x49, rfl, by show _ = x49.toInt + ((0 : Nat) : Int); omega⟩
  | succ m ih =>
    intro f t x49 x50 i19 i20 hx hm hf h0 hb
    obtain ⟨f, rfl⟩ : ∃ w, f = w + 1 := ⟨f - 1, by omega⟩
    have hx1 := toInt_add hx co1 (by omega) (by omega)
    have hx2 := toInt_add (x := x49) rfl co1 (by omega) (by omega)
    have hx3 := toInt_add (x := x49) rfl c1 (by omega) (by omega)
    have e2 : (x49 + Int32.ofInt 1).toInt = x49.toInt + 1 := by omega
    have ec : x4 = Int32.ofNat c := oN hc
    have et : x50 = Int32.ofNat t := oN hx
    rw [S_m12_breachesOf_j48, if_neg (by omega), htok t x50 hx (by omega), htb t x50 hx (by omega)]
    by_cases w : mtB b19 b20 b21 c (f32 t) = true
    · have w' : ¬ (F_m12_isMeant x4 (f32 t) b19 b20 b21).toInt = 0 := by rw [ec]; exact of_decide_eq_true w
      rw [if_neg w']
      by_cases w2 : tb c t = true
      · rw [if_pos w2, if_neg n10, brs_n (fun z => z.2 w2)]
        exact ih f (t + 1) x49 (x50 + Int32.ofInt 1) i19 i20 (by omega) (by omega) (by omega) h0 (by omega)
      · rw [if_neg w2, if_pos y00, brs_y ⟨w, w2⟩]
        have e : ∀ L : List I2, (((Int32.ofNat c, Int32.ofNat t) :: L).length : Int) = L.length + 1 := fun L => by show ((L.length + 1 : Nat) : Int) = _; omega
        by_cases w3 : x49.toInt ≠ wt.toInt
        · rw [if_pos w3]
          obtain ⟨y, r1, r2⟩ := ih f (t + 1) (x49 + Int32.ofInt 1) (x50 + Int32.ofInt 1) i19 i20 (by omega) (by omega) (by omega) (by omega) (by omega)
          rw [e2] at r1 r2
          refine ⟨y, ?_, by rw [e]; omega⟩
          rw [r1]
          show _ = K y (x4 + Int32.ofInt 1) (fnd wt.toInt (x49.toInt + 1) _ (if x49.toInt = wt.toInt then _ else (i19, i20))).1 (fnd wt.toInt (x49.toInt + 1) _ (if x49.toInt = wt.toInt then _ else (i19, i20))).2 d28 d29
          rw [if_neg w3]
        · rw [if_neg w3]
          obtain ⟨y, r1, r2⟩ := ih f (t + 1) (x49 + Int32.ofInt 1) (x50 + Int32.ofInt 1) x4 x50 (by omega) (by omega) (by omega) (by omega) (by omega)
          rw [e2] at r1 r2
          refine ⟨y, ?_, by rw [e]; omega⟩
          rw [r1]
          show _ = K y (x4 + Int32.ofInt 1) (fnd wt.toInt (x49.toInt + 1) _ (if x49.toInt = wt.toInt then (Int32.ofNat c, Int32.ofNat t) else (i19, i20))).1 (fnd wt.toInt (x49.toInt + 1) _ (if x49.toInt = wt.toInt then (Int32.ofNat c, Int32.ofNat t) else (i19, i20))).2 d28 d29
          rw [if_pos (show x49.toInt = wt.toInt by omega), ← ec, ← et]
    · have w' : (F_m12_isMeant x4 (f32 t) b19 b20 b21).toInt = 0 := by
        rw [ec]
        by_cases z : (F_m12_isMeant (Int32.ofNat c) (f32 t) b19 b20 b21).toInt = 0
        · exact z
        · exact absurd (decide_eq_true z) w
      rw [if_pos w', brs_n (fun z => w z.1)]
      exact ih f (t + 1) x49 (x50 + Int32.ofInt 1) i19 i20 (by omega) (by omega) (by omega) h0 (by omega)
theorem mb2 {p0 wt : Int32} {n : Nat} {b38 b39 b40 b41 b42 f32 : Nat → Int32} {tb : Nat → Nat → Bool} (h9 : 0 ≤ i9.toInt ∧ i9.toInt ≤ 20) (hL : LAW i9 a18 a19 a20 a21 a22 a23 a24 a25 b15 b16 b17 b18 b19 b20 b21 b22) (hC : RCC i9 a21 a26 rtn rtc b23 b24 b25 b26) (hn : (b38 p0.toNatClampNeg).toInt = (n : Int)) (hn8 : n ≤ 8)
    (htok : ∀ (t : Nat) (x : Int32), x.toInt = (t : Int) → t < n → b39 (((8 : Int32) * p0) + x).toNatClampNeg = f32 t)
    (htb : ∀ (c t : Nat) (w x : Int32), x.toInt = (t : Int) → t < n → w.toInt = (b22 c).toInt → F_m12_turnsBy p0 x w b40 b41 b42 = if tb c t = true then 1 else 0) :
    ∀ (m f q : Nat) (x3 x4 i19 i20 : Int32) (b28 b29 : Nat → Int32), x4.toInt = (q : Int) → 16 * i9.toInt = (q : Int) + m → m < f → 0 ≤ x3.toInt → x3.toInt + 8 * m ≤ 1000000 →
    ∃ (y : Int32) (d28 d29 : Nat → Int32), f_m12_breachesOf_j2 p0 wt day i6 i9 b2 b3 b4 b8 b15 b16 b17 b18 b19 b20 b21 b22 b23 b24 b25 b26 b38 b39 b40 b41 b42 v f x3 x4 i19 i20 b28 b29 = (y, (fnd wt.toInt x3.toInt (brl (mtB b19 b20 b21) tb f32 n (WF (hwB 119 v day i6 i9 b2 b3 b4 b8 b15 b16 b17 b18 b19 b20 b21 b23 b24 b25 b26) m q)) (i19, i20)).1, (fnd wt.toInt x3.toInt (brl (mtB b19 b20 b21) tb f32 n (WF (hwB 119 v day i6 i9 b2 b3 b4 b8 b15 b16 b17 b18 b19 b20 b21 b23 b24 b25 b26) m q)) (i19, i20)).2, d28, d29) ∧ y.toInt = x3.toInt + (brl (mtB b19 b20 b21) tb f32 n (WF (hwB 119 v day i6 i9 b2 b3 b4 b8 b15 b16 b17 b18 b19 b20 b21 b23 b24 b25 b26) m q)).length := by
  have e16 : ((16 : Int32) * i9).toInt = 16 * i9.toInt := toInt_mul c16i rfl rfl (by omega) (by omega)
  have o1 := co1
  intro m
  induction m with
  | zero =>
    intro f q x3 x4 i19 i20 b28 b29 hq hm hf _ _
    obtain ⟨f, rfl⟩ : ∃ w, f = w + 1 := ⟨f - 1, by omega⟩
    rw [S_m12_breachesOf_j2, if_pos (by omega)]
    exact ⟨x3, b28, b29, rfl, by show _ = x3.toInt + ((0 : Nat) : Int); omega⟩
  | succ m ih =>
    intro f q x3 x4 i19 i20 b28 b29 hq hm hf h0 hb
    obtain ⟨f, rfl⟩ : ∃ w, f = w + 1 := ⟨f - 1, by omega⟩
    have hx1 := toInt_add hq co1 (by omega) (by omega)
    obtain ⟨e1, e2⟩ := dm16 hq (by omega)
    have no : ∀ (d28 d29 : Nat → Int32), ¬ hwB 119 v day i6 i9 b2 b3 b4 b8 b15 b16 b17 b18 b19 b20 b21 b23 b24 b25 b26 q = true → ∃ (y : Int32) (c28 c29 : Nat → Int32), f_m12_breachesOf_j2 p0 wt day i6 i9 b2 b3 b4 b8 b15 b16 b17 b18 b19 b20 b21 b22 b23 b24 b25 b26 b38 b39 b40 b41 b42 v f x3 (x4 + Int32.ofInt 1) i19 i20 d28 d29 = (y, (fnd wt.toInt x3.toInt (brl (mtB b19 b20 b21) tb f32 n (WF (hwB 119 v day i6 i9 b2 b3 b4 b8 b15 b16 b17 b18 b19 b20 b21 b23 b24 b25 b26) (m + 1) q)) (i19, i20)).1, (fnd wt.toInt x3.toInt (brl (mtB b19 b20 b21) tb f32 n (WF (hwB 119 v day i6 i9 b2 b3 b4 b8 b15 b16 b17 b18 b19 b20 b21 b23 b24 b25 b26) (m + 1) q)) (i19, i20)).2, c28, c29) ∧ y.toInt = x3.toInt + (brl (mtB b19 b20 b21) tb f32 n (WF (hwB 119 v day i6 i9 b2 b3 b4 b8 b15 b16 b17 b18 b19 b20 b21 b23 b24 b25 b26) (m + 1) q)).length := by
      intro d28 d29 w
      rw [WF_n w]
      exact ih f (q + 1) x3 (x4 + Int32.ofInt 1) i19 i20 d28 d29 (by omega) (by omega) (by omega) h0 (by omega)
    rw [S_m12_breachesOf_j2, if_neg (by omega), nc e1, nc hq]
    by_cases w1 : (x4 - x4 / (16 : Int32) * (16 : Int32)).toInt ≥ (b18 (q / 16)).toInt
    · have n1 : vld b18 q = false := decide_eq_false (by omega)
      rw [if_pos w1]
      exact no b28 b29 (fun z => by unfold hwB at z; rw [n1] at z; cases z)
    · have n1 : vld b18 q = true := decide_eq_true (by omega)
      rw [if_neg w1, oN e1]
      by_cases w2 : (F_m12_isInForce (Int32.ofNat (q / 16)) v day i6 b2 b8 b15 b16 b17).toInt = 0
      · have n2 : ifB v day i6 b2 b8 b15 b16 b17 (q / 16) = false := decide_eq_false (fun z => z w2)
        rw [if_pos w2]
        exact no b28 b29 (fun z => by unfold hwB at z; rw [n1, n2] at z; cases z)
      · have n2 : ifB v day i6 b2 b8 b15 b16 b17 (q / 16) = true := decide_eq_true w2
        rw [if_neg w2]
        by_cases w3 : (b19 q).toInt ≠ 119
        · have n3 : decide ((b19 q).toInt = 119) = false := decide_eq_false w3
          rw [if_pos w3]
          exact no b28 b29 (fun z => by unfold hwB at z; rw [n1, n2, n3] at z; cases z)
        · have n3 : decide ((b19 q).toInt = 119) = true := decide_eq_true (by omega)
          rw [if_neg w3]
          have ew := worth_of (v := v) (day := day) (i6 := i6) (b2 := b2) (b3 := b3) (b4 := b4) (b8 := b8) h9 hL hC hq (by omega) n1 b28 b29
          rw [ew]
          by_cases w4 : (F_m12_worth (Int32.ofNat q) v day i6 i9 b2 b3 b4 b8 b15 b16 b17 b18 b19 b20 b21 b23 b24 b25 b26 z0 z0).1.toInt = 1
          · have n4 : woB v day i6 i9 b2 b3 b4 b8 b15 b16 b17 b18 b19 b20 b21 b23 b24 b25 b26 q = true := decide_eq_true w4
            have nw : hwB 119 v day i6 i9 b2 b3 b4 b8 b15 b16 b17 b18 b19 b20 b21 b23 b24 b25 b26 q = true := by unfold hwB; rw [n1, n2, n3, n4]; rfl
            rw [if_pos w4, WF_y nw]
            have hl := brs_len (mt := mtB b19 b20 b21) (tb := tb) (tok := f32) (c := q) n 0
            obtain ⟨y, r1, r2⟩ := mb48 (p0 := p0) (wt := wt) (x4 := x4) (c := q) (n := n) (b38 := b38) (b39 := b39) (b40 := b40) (b41 := b41) (b42 := b42) (b19 := b19) (b20 := b20) (b21 := b21) (b22 := b22) (f32 := f32) (tb := tb) (d28 := (F_m12_worth x4 v day i6 i9 b2 b3 b4 b8 b15 b16 b17 b18 b19 b20 b21 b23 b24 b25 b26 b28 b29).2.1) (d29 := (F_m12_worth x4 v day i6 i9 b2 b3 b4 b8 b15 b16 b17 b18 b19 b20 b21 b23 b24 b25 b26 b28 b29).2.2) (K := f_m12_breachesOf_j2 p0 wt day i6 i9 b2 b3 b4 b8 b15 b16 b17 b18 b19 b20 b21 b22 b23 b24 b25 b26 b38 b39 b40 b41 b42 v f) hq hn hn8 htok (fun t x k1 k2 => htb q t _ x k1 k2 (by rw [nc hq])) n 9 0 x3 0 i19 i20 c0 (by omega) (by omega) h0 (by omega)
            rw [r1]
            have eq : brl (mtB b19 b20 b21) tb f32 n (q :: WF (hwB 119 v day i6 i9 b2 b3 b4 b8 b15 b16 b17 b18 b19 b20 b21 b23 b24 b25 b26) m (q + 1)) = brs (mtB b19 b20 b21) tb f32 q n 0 ++ brl (mtB b19 b20 b21) tb f32 n (WF (hwB 119 v day i6 i9 b2 b3 b4 b8 b15 b16 b17 b18 b19 b20 b21 b23 b24 b25 b26) m (q + 1)) := rfl
            rw [eq]
            generalize brs (mtB b19 b20 b21) tb f32 q n 0 = A1 at r2 hl ⊢
            obtain ⟨y2, c28, c29, s1, s2⟩ := ih f (q + 1) y (x4 + Int32.ofInt 1) (fnd wt.toInt x3.toInt A1 (i19, i20)).1 (fnd wt.toInt x3.toInt A1 (i19, i20)).2 (F_m12_worth x4 v day i6 i9 b2 b3 b4 b8 b15 b16 b17 b18 b19 b20 b21 b23 b24 b25 b26 b28 b29).2.1 (F_m12_worth x4 v day i6 i9 b2 b3 b4 b8 b15 b16 b17 b18 b19 b20 b21 b23 b24 b25 b26 b28 b29).2.2 (by omega) (by omega) (by omega) (by omega) (by omega)
            generalize brl (mtB b19 b20 b21) tb f32 n (WF (hwB 119 v day i6 i9 b2 b3 b4 b8 b15 b16 b17 b18 b19 b20 b21 b23 b24 b25 b26) m (q + 1)) = A2 at s1 s2 ⊢
            have e : ((A1 ++ A2).length : Int) = A1.length + A2.length := by rw [List.length_append]; omega
            refine ⟨y2, c28, c29, ?_, by rw [e]; omega⟩
            rw [s1, fnd_app, r2]
          · have n4 : woB v day i6 i9 b2 b3 b4 b8 b15 b16 b17 b18 b19 b20 b21 b23 b24 b25 b26 q = false := decide_eq_false w4
            rw [if_neg w4]
            exact no _ _ (fun z => by unfold hwB at z; rw [n1, n2, n3, n4] at z; cases z)
end MBR
