/-! what a condition's text is read to (bad, place): mode 0 a factor, 1 a factor and the rest of its sum, 2 a piece, 3 a piece and the rest of its condition; fuel, mode, how many are open, place -/
def seq (r : Int × Nat) (f : Nat → Int × Nat) : Int × Nat := if r.1 ≠ 0 then r else f r.2
theorem seq_n {r : Int × Nat} {f : Nat → Int × Nat} (h : r.1 < 0) : seq r f = r := by unfold seq; rw [if_pos (by omega)]
theorem seq_y {r : Int × Nat} {f : Nat → Int × Nat} (h : r.1 = 0) : seq r f = f r.2 := by unfold seq; rw [if_neg (by omega)]
def opT (c : Int) : Bool := decide (c = 42 ∨ c = 47 ∨ c = 37)
def opS (c : Int) : Bool := decide (c = 43 ∨ c = 45)
def opA (c : Int) : Bool := decide (c = 38)
def opO (c : Int) : Bool := decide (c = 124)
def sp (T : Nat → Int) : Nat → Nat → Nat → Nat → Int × Nat
  | 0, _, _, p => (-1, p)
  | n + 1, 0, o, p =>
    if T p = 91 then (if 6 ≤ o then (-5000 - (p : Int), p) else seq (sp T n 1 (o + 1) (p + 1)) (fun q => if T q = 93 then (0, q + 1) else (-1000 - (q : Int), q)))
    else if 48 ≤ T p ∧ T p ≤ 57 then ((spN T 99999 p).1, (spN T 99999 p).2.1)
    else if T p = 98 ∨ T p = 99 ∨ T p = 100 ∨ T p = 109 ∨ T p = 110 ∨ T p = 118 then (0, p + 1) else (-1000 - (p : Int), p)
  | n + 1, 1, o, p => seq (sp T n 0 o p) (fun q => if opT (T q) = true ∨ opS (T q) = true then sp T n 1 o (q + 1) else (0, q))
  | n + 1, 2, o, p =>
    if T p = 33 then (if 6 ≤ o then (-5000 - (p : Int), p) else sp T n 2 (o + 1) (p + 1))
    else if T p = 40 then (if 6 ≤ o then (-5000 - (p : Int), p) else seq (sp T n 3 (o + 1) (p + 1)) (fun q => if T q = 41 then (0, q + 1) else (-1000 - (q : Int), q)))
    else seq (sp T n 1 o p) (fun q => if T q = 60 ∨ T q = 62 ∨ T q = 61 then sp T n 1 o (q + 1) else (-1000 - (q : Int), q))
  | n + 1, _ + 3, o, p => seq (sp T n 2 o p) (fun q => if opA (T q) = true ∨ opO (T q) = true then sp T n 3 o (q + 1) else (0, q))
theorem sp_0 (T : Nat → Int) (n o p : Nat) : sp T (n + 1) 0 o p = if T p = 91 then (if 6 ≤ o then (-5000 - (p : Int), p) else seq (sp T n 1 (o + 1) (p + 1)) (fun q => if T q = 93 then (0, q + 1) else (-1000 - (q : Int), q)))
    else if 48 ≤ T p ∧ T p ≤ 57 then ((spN T 99999 p).1, (spN T 99999 p).2.1)
    else if T p = 98 ∨ T p = 99 ∨ T p = 100 ∨ T p = 109 ∨ T p = 110 ∨ T p = 118 then (0, p + 1) else (-1000 - (p : Int), p) := rfl
theorem sp_1 (T : Nat → Int) (n o p : Nat) : sp T (n + 1) 1 o p = seq (sp T n 0 o p) (fun q => if opT (T q) = true ∨ opS (T q) = true then sp T n 1 o (q + 1) else (0, q)) := rfl
theorem sp_2 (T : Nat → Int) (n o p : Nat) : sp T (n + 1) 2 o p = if T p = 33 then (if 6 ≤ o then (-5000 - (p : Int), p) else sp T n 2 (o + 1) (p + 1))
    else if T p = 40 then (if 6 ≤ o then (-5000 - (p : Int), p) else seq (sp T n 3 (o + 1) (p + 1)) (fun q => if T q = 41 then (0, q + 1) else (-1000 - (q : Int), q)))
    else seq (sp T n 1 o p) (fun q => if T q = 60 ∨ T q = 62 ∨ T q = 61 then sp T n 1 o (q + 1) else (-1000 - (q : Int), q)) := rfl
theorem sp_3 (T : Nat → Int) (n o p : Nat) : sp T (n + 1) 3 o p = seq (sp T n 2 o p) (fun q => if opA (T q) = true ∨ opO (T q) = true then sp T n 3 o (q + 1) else (0, q)) := rfl
def OKat (n p : Nat) (r : Int × Nat) : Prop := (r.1 = 0 ∧ p < r.2 ∧ r.2 ≤ n) ∨ (r.1 < 0 ∧ -10000 < r.1)
theorem T_in {T : Nat → Int} {n p : Nat} (hT : TXT T n) (h : T p ≠ 0) : p < n := by
  by_cases w : p < n
  · exact w
  · exact absurd (hT.2.2 p (by omega)) h
theorem opT_i {c : Int} (h : opT c = true) : c = 42 ∨ c = 47 ∨ c = 37 := of_decide_eq_true h
theorem opS_i {c : Int} (h : opS c = true) : c = 43 ∨ c = 45 := of_decide_eq_true h
theorem opA_i {c : Int} (h : opA c = true) : c = 38 := of_decide_eq_true h
theorem opO_i {c : Int} (h : opO c = true) : c = 124 := of_decide_eq_true h
theorem opT_o {c : Int} (h : ¬ opT c = true) : ¬ (c = 42 ∨ c = 47 ∨ c = 37) := fun q => h (decide_eq_true q)
theorem opS_o {c : Int} (h : ¬ opS c = true) : ¬ (c = 43 ∨ c = 45) := fun q => h (decide_eq_true q)
theorem opA_o {c : Int} (h : ¬ opA c = true) : ¬ (c = 38) := fun q => h (decide_eq_true q)
theorem opO_o {c : Int} (h : ¬ opO c = true) : ¬ (c = 124) := fun q => h (decide_eq_true q)
theorem OK_le {n p q : Nat} {r : Int × Nat} (h : OKat n q r) (hpq : p ≤ q) : OKat n p r := by
  rcases h with ⟨h1, h2, h3⟩ | h
  · exact Or.inl ⟨h1, by omega, h3⟩
  · exact Or.inr h
theorem OK_bad {n p q : Nat} {c : Int} (hc : 1000 ≤ c ∧ c ≤ 5000) (hn : n ≤ 160) (hq : q ≤ n) : OKat n p (-c - (q : Int), q) := Or.inr ⟨by show -c - (q : Int) < 0; omega, by show -10000 < -c - (q : Int); omega⟩
theorem sp_ok {T : Nat → Int} {n : Nat} (hT : TXT T n) : ∀ (k m o p : Nat), m ≤ 3 → p ≤ n → 4 * (n + 1 - p) + m < k → OKat n p (sp T k m o p) := by
  have h160 := hT.1
  intro k
  induction k with
  | zero => intro m o p _ _ h; omega
  | succ k ih =>
    intro m o p hm hp hk
    rcases (show m = 0 ∨ m = 1 ∨ m = 2 ∨ m = 3 by omega) with rfl | rfl | rfl | rfl
    · rw [sp_0]
      by_cases h1 : T p = 91
      · rw [if_pos h1]
        have hpn := T_in hT (p := p) (by omega)
        by_cases h2 : 6 ≤ o
        · rw [if_pos h2]; exact OK_bad (by omega) h160 hp
        · rw [if_neg h2]
          have H := ih 1 (o + 1) (p + 1) (by omega) (by omega) (by omega)
          rcases H with ⟨g1, g2, g3⟩ | g
          · rw [seq_y g1]
            show OKat n p (if T (sp T k 1 (o + 1) (p + 1)).2 = 93 then (0, (sp T k 1 (o + 1) (p + 1)).2 + 1) else (-1000 - ((sp T k 1 (o + 1) (p + 1)).2 : Int), (sp T k 1 (o + 1) (p + 1)).2))
            by_cases h3 : T (sp T k 1 (o + 1) (p + 1)).2 = 93
            · rw [if_pos h3]
              have := T_in hT (p := (sp T k 1 (o + 1) (p + 1)).2) (by omega)
              exact Or.inl ⟨rfl, by show p < (sp T k 1 (o + 1) (p + 1)).2 + 1; omega, this⟩
            · rw [if_neg h3]; exact OK_bad (by omega) h160 g3
          · rw [seq_n g.1]; exact Or.inr g
      · rw [if_neg h1]
        by_cases h2 : 48 ≤ T p ∧ T p ≤ 57
        · rw [if_pos h2]
          rcases spN_bad (most := 99999) hT hp with h | h
          · have := spN_at hT hp h
            exact Or.inl ⟨h, this.1, this.2.1⟩
          · exact Or.inr h
        · rw [if_neg h2]
          by_cases h3 : T p = 98 ∨ T p = 99 ∨ T p = 100 ∨ T p = 109 ∨ T p = 110 ∨ T p = 118
          · rw [if_pos h3]
            have hpn := T_in hT (p := p) (by omega)
            exact Or.inl ⟨rfl, Nat.lt_succ_self p, hpn⟩
          · rw [if_neg h3]; exact OK_bad (by omega) h160 hp
    · rw [sp_1]
      rcases ih 0 o p (by omega) hp (by omega) with ⟨g1, g2, g3⟩ | g
      · rw [seq_y g1]
        show OKat n p (if opT (T (sp T k 0 o p).2) = true ∨ opS (T (sp T k 0 o p).2) = true then sp T k 1 o ((sp T k 0 o p).2 + 1) else (0, (sp T k 0 o p).2))
        by_cases h3 : opT (T (sp T k 0 o p).2) = true ∨ opS (T (sp T k 0 o p).2) = true
        · rw [if_pos h3]
          have hn0 : T (sp T k 0 o p).2 ≠ 0 := by
            rcases h3 with h | h
            · have := opT_i h; omega
            · have := opS_i h; omega
          have := T_in hT hn0
          exact OK_le (ih 1 o ((sp T k 0 o p).2 + 1) (by omega) (by omega) (by omega)) (by omega)
        · rw [if_neg h3]; exact Or.inl ⟨rfl, g2, g3⟩
      · rw [seq_n g.1]; exact Or.inr g
    · rw [sp_2]
      by_cases h1 : T p = 33
      · rw [if_pos h1]
        have hpn := T_in hT (p := p) (by omega)
        by_cases h2 : 6 ≤ o
        · rw [if_pos h2]; exact OK_bad (by omega) h160 hp
        · rw [if_neg h2]; exact OK_le (ih 2 (o + 1) (p + 1) (by omega) (by omega) (by omega)) (by omega)
      · rw [if_neg h1]
        by_cases h2 : T p = 40
        · rw [if_pos h2]
          have hpn := T_in hT (p := p) (by omega)
          by_cases h3 : 6 ≤ o
          · rw [if_pos h3]; exact OK_bad (by omega) h160 hp
          · rw [if_neg h3]
            rcases ih 3 (o + 1) (p + 1) (by omega) (by omega) (by omega) with ⟨g1, g2, g3⟩ | g
            · rw [seq_y g1]
              show OKat n p (if T (sp T k 3 (o + 1) (p + 1)).2 = 41 then (0, (sp T k 3 (o + 1) (p + 1)).2 + 1) else (-1000 - ((sp T k 3 (o + 1) (p + 1)).2 : Int), (sp T k 3 (o + 1) (p + 1)).2))
              by_cases h3 : T (sp T k 3 (o + 1) (p + 1)).2 = 41
              · rw [if_pos h3]
                have := T_in hT (p := (sp T k 3 (o + 1) (p + 1)).2) (by omega)
                exact Or.inl ⟨rfl, by show p < (sp T k 3 (o + 1) (p + 1)).2 + 1; omega, this⟩
              · rw [if_neg h3]; exact OK_bad (by omega) h160 g3
            · rw [seq_n g.1]; exact Or.inr g
        · rw [if_neg h2]
          rcases ih 1 o p (by omega) hp (by omega) with ⟨g1, g2, g3⟩ | g
          · rw [seq_y g1]
            show OKat n p (if T (sp T k 1 o p).2 = 60 ∨ T (sp T k 1 o p).2 = 62 ∨ T (sp T k 1 o p).2 = 61 then sp T k 1 o ((sp T k 1 o p).2 + 1) else (-1000 - ((sp T k 1 o p).2 : Int), (sp T k 1 o p).2))
            by_cases h3 : T (sp T k 1 o p).2 = 60 ∨ T (sp T k 1 o p).2 = 62 ∨ T (sp T k 1 o p).2 = 61
            · rw [if_pos h3]
              have := T_in hT (p := (sp T k 1 o p).2) (by omega)
              exact OK_le (ih 1 o ((sp T k 1 o p).2 + 1) (by omega) (by omega) (by omega)) (by omega)
            · rw [if_neg h3]; exact OK_bad (by omega) h160 g3
          · rw [seq_n g.1]; exact Or.inr g
    · rw [sp_3]
      rcases ih 2 o p (by omega) hp (by omega) with ⟨g1, g2, g3⟩ | g
      · rw [seq_y g1]
        show OKat n p (if opA (T (sp T k 2 o p).2) = true ∨ opO (T (sp T k 2 o p).2) = true then sp T k 3 o ((sp T k 2 o p).2 + 1) else (0, (sp T k 2 o p).2))
        by_cases h3 : opA (T (sp T k 2 o p).2) = true ∨ opO (T (sp T k 2 o p).2) = true
        · rw [if_pos h3]
          have hn0 : T (sp T k 2 o p).2 ≠ 0 := by
            rcases h3 with h | h
            · have := opA_i h; omega
            · have := opO_i h; omega
          have := T_in hT hn0
          exact OK_le (ih 3 o ((sp T k 2 o p).2 + 1) (by omega) (by omega) (by omega)) (by omega)
        · rw [if_neg h3]; exact Or.inl ⟨rfl, g2, g3⟩
      · rw [seq_n g.1]; exact Or.inr g
/-! the class's readers answer so -/
abbrev R4 := Int32 × Int32 × Int32 × Int32
abbrev LF := Nat → Int32 → Int32 → Int32 → Int32 → Int32 → R4
def dn (F : LF) (f : Nat) (c : Int32) (t : R4) : R4 := F f t.1 c t.2.1 t.2.2.1 t.2.2.2
theorem XR_fail {r : Int × Nat} {a b a' b' : Int32} {t2 t3 t4 : Int32} (h : XR r a b ((0 : Int32), t2, t3, t4)) (hr : r.1 < 0) : XR r a' b' ((0 : Int32), t2, t3, t4) := by
  rcases h with h | h
  · exact absurd h.1 (by omega)
  · exact Or.inr h
theorem XR_ok {q : Nat} {a b y : Int32} (h : y.toInt = (q : Int)) : XR (0, q) a b ((1 : Int32), y, a, b) := Or.inl ⟨rfl, rfl, h, rfl, rfl⟩
theorem XR_bad {q : Nat} {a b y f : Int32} {c : Int} (h : y.toInt = (q : Int)) (hq : q ≤ 160) (hf : f.toInt * 1000 = c) (h1 : 1 ≤ f.toInt) (h2 : f.toInt ≤ 6) : XR (-c - (q : Int), q) a b ((0 : Int32), y, f, y) :=
  Or.inr ⟨by show -c - (q : Int) < 0; omega, rfl, by show -c - (q : Int) = -1000 * f.toInt - y.toInt; omega, h1, h2, by show 0 ≤ y.toInt; omega, by show y.toInt ≤ 200; omega⟩
theorem pair_loop {T : Nat → Int} {n : Nat} {TL SL : LF} {g : Int32 → Int32 → Int32 → R4} {bt bs : Int → Bool} {s0 s1 : Nat → Nat → Int × Nat} {base : Nat} (hT : TXT T n)
    (e1 : ∀ k p, s1 (k + 1) p = seq (s0 k p) (fun q => if bt (T q) = true ∨ bs (T q) = true then s1 k (q + 1) else (0, q)))
    (b0 : bt 0 = false) (b1 : bs 0 = false)
    (T0 : ∀ (f : Nat) (c y a b : Int32), TL (f + 1) 0 c y a b = ((0 : Int32), y, a, b))
    (T1 : ∀ (f : Nat) (c y a b : Int32) (p : Nat), y.toInt = (p : Int) → p ≤ n → ¬ bt (T p) = true → TL (f + 1) 1 c y a b = ((1 : Int32), y, a, b))
    (T2 : ∀ (f : Nat) (c y a b : Int32) (p : Nat), y.toInt = (p : Int) → p ≤ n → c.toInt < 160 → bt (T p) = true → TL (f + 1) 1 c y a b = dn TL f (c + Int32.ofInt 1) (g (y + 1) a b))
    (S0 : ∀ (f : Nat) (c y a b : Int32), SL (f + 1) 0 c y a b = ((0 : Int32), y, a, b))
    (S1 : ∀ (f : Nat) (c y a b : Int32) (p : Nat), y.toInt = (p : Int) → p ≤ n → ¬ bs (T p) = true → SL (f + 1) 1 c y a b = ((1 : Int32), y, a, b))
    (S2 : ∀ (f : Nat) (c y a b : Int32) (p : Nat), y.toInt = (p : Int) → p ≤ n → c.toInt < 160 → bs (T p) = true → SL (f + 1) 1 c y a b = dn SL f (c + Int32.ofInt 1) (dn TL 161 0 (g (y + 1) a b))) :
    ∀ (k : Nat), (∀ (j : Nat), j < k → ∀ (p : Nat) (y a b : Int32), p ≤ n → y.toInt = (p : Int) → 4 * (n + 1 - p) + base < j → XR (s0 j p) a b (g y a b) ∧ OKat n p (s0 j p)) →
    ∀ (p f1 f2 : Nat) (c1 c2 y a b : Int32), p ≤ n → y.toInt = (p : Int) → 0 ≤ c1.toInt → c1.toInt ≤ (p : Int) → 0 ≤ c2.toInt → c2.toInt ≤ (p : Int) → 161 ≤ (f1 : Int) + c1.toInt → 161 ≤ (f2 : Int) + c2.toInt → 4 * (n + 1 - p) + base < k →
    XR (if bt (T p) = true ∨ bs (T p) = true then s1 k (p + 1) else (0, p)) a b (dn SL f2 c2 (TL f1 1 c1 y a b)) := by
  have h160 := hT.1
  intro k
  induction k with
  | zero => intro _ p f1 f2 c1 c2 y a b _ _ _ _ _ _ _ _ h; omega
  | succ k ih =>
    intro hyp p f1 f2 c1 c2 y a b hp hy hc1 hc1p hc2 hc2p hf1 hf2 hk
    have hyp' : ∀ (j : Nat), j < k → ∀ (p : Nat) (y a b : Int32), p ≤ n → y.toInt = (p : Int) → 4 * (n + 1 - p) + base < j → XR (s0 j p) a b (g y a b) ∧ OKat n p (s0 j p) := fun j hj => hyp j (by omega)
    obtain ⟨f1, rfl⟩ : ∃ w, f1 = w + 1 := ⟨f1 - 1, by omega⟩
    obtain ⟨f2, rfl⟩ : ∃ w, f2 = w + 1 := ⟨f2 - 1, by omega⟩
    by_cases h1 : bt (T p) = true
    · have hpn : p < n := T_in hT (fun q => by rw [q] at h1; rw [b0] at h1; cases h1)
      rw [if_pos (Or.inl h1), e1, T2 f1 c1 y a b p hy hp (by omega) h1]
      have hy1 := suc_of hy (by omega)
      have ec := toInt_add (x := c1) rfl co1 (by omega) (by omega)
      obtain ⟨H, H2⟩ := hyp k (by omega) (p + 1) (y + 1) a b (by omega) hy1 (by omega)
      generalize g (y + 1) a b = t at H
      obtain ⟨t1, t2, t3, t4⟩ := t
      obtain ⟨f1, rfl⟩ : ∃ w, f1 = w + 1 := ⟨f1 - 1, by omega⟩
      rcases H2 with ⟨k1, k2, k3⟩ | k1
      · rcases H with ⟨g1, g2, g3, g4, g5⟩ | ⟨g1, _⟩
        · have g2 : t1 = 1 := g2
          have g3 : t2.toInt = ((s0 k (p + 1)).2 : Int) := g3
          have g4 : t3 = a := g4
          have g5 : t4 = b := g5
          subst g2; subst g4; subst g5
          rw [seq_y k1]
          exact ih hyp' (s0 k (p + 1)).2 (f1 + 1) (f2 + 1) (c1 + Int32.ofInt 1) c2 t2 t3 t4 k3 g3 (by omega) (by omega) (by omega) (by omega) (by omega) (by omega) (by omega)
        · omega
      · rcases H with ⟨g1, _⟩ | H
        · omega
        · have g2 : t1 = 0 := H.2.1
          subst g2
          rw [seq_n k1.1]
          show XR (s0 k (p + 1)) a b (dn SL (f2 + 1) c2 (TL (f1 + 1) 0 (c1 + Int32.ofInt 1) t2 t3 t4))
          rw [T0]
          show XR (s0 k (p + 1)) a b (SL (f2 + 1) 0 c2 t2 t3 t4)
          rw [S0]
          exact Or.inr H
    · rw [T1 f1 c1 y a b p hy hp h1]
      show XR _ a b (SL (f2 + 1) 1 c2 y a b)
      by_cases h2 : bs (T p) = true
      · have hpn : p < n := T_in hT (fun q => by rw [q] at h2; rw [b1] at h2; cases h2)
        rw [if_pos (Or.inr h2), e1, S2 f2 c2 y a b p hy hp (by omega) h2]
        have hy1 := suc_of hy (by omega)
        have ec := toInt_add (x := c2) rfl co1 (by omega) (by omega)
        obtain ⟨H, H2⟩ := hyp k (by omega) (p + 1) (y + 1) a b (by omega) hy1 (by omega)
        generalize g (y + 1) a b = t at H
        obtain ⟨t1, t2, t3, t4⟩ := t
        obtain ⟨f2, rfl⟩ : ∃ w, f2 = w + 1 := ⟨f2 - 1, by omega⟩
        rcases H2 with ⟨k1, k2, k3⟩ | k1
        · rcases H with ⟨g1, g2, g3, g4, g5⟩ | ⟨g1, _⟩
          · have g2 : t1 = 1 := g2
            have g3 : t2.toInt = ((s0 k (p + 1)).2 : Int) := g3
            have g4 : t3 = a := g4
            have g5 : t4 = b := g5
            subst g2; subst g4; subst g5
            rw [seq_y k1]
            exact ih hyp' (s0 k (p + 1)).2 161 (f2 + 1) 0 (c2 + Int32.ofInt 1) t2 t3 t4 k3 g3 (by rw [c0]; omega) (by rw [c0]; omega) (by omega) (by omega) (by rw [c0]; omega) (by omega) (by omega)
          · omega
        · rcases H with ⟨g1, _⟩ | H
          · omega
          · have g2 : t1 = 0 := H.2.1
            subst g2
            rw [seq_n k1.1]
            show XR (s0 k (p + 1)) a b (dn SL (f2 + 1) (c2 + Int32.ofInt 1) (TL (160 + 1) 0 0 t2 t3 t4))
            rw [T0]
            show XR (s0 k (p + 1)) a b (SL (f2 + 1) 0 (c2 + Int32.ofInt 1) t2 t3 t4)
            rw [S0]
            exact Or.inr H
      · rw [if_neg (fun q => q.elim h1 h2), S1 f2 c2 y a b p hy hp h2]
        exact XR_ok hy
