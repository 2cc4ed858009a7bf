/-! the class's sums come to what the code comes to -/
def TXE (T : Nat → Int) (n : Nat) (ptn : Nat) (ptc : Nat → Int32) : Prop := ptn = n ∧ ∀ p, p < n → (ptc p).toInt = T p
section EVS
variable {T : Nat → Int} {n ptn : Nat} {ptc : Nat → Int32} {i17 i18 i19 i22 i23 i24 : Int32}
theorem sg6 (hT : TXT T n) (hx : TXE T n ptn ptc) {y : Int32} {p : Nat} (hp : y.toInt = (p : Int)) : (p < n ∧ (F_x6_sign y ptn ptc).toInt = T p) ∨ (n ≤ p ∧ T p = 0 ∧ (F_x6_sign y ptn ptc).toInt = -1) := by
  obtain ⟨h1, h2, h3⟩ := hT
  obtain ⟨x1, x2⟩ := hx
  have en : (Int32.ofNat ptn).toInt = (n : Int) := by rw [x1]; exact nI_toInt (by omega)
  rw [E_x6_sign, if_neg (by omega), en]
  by_cases q : p < n
  · left
    rw [if_neg (by omega), nc hp]
    exact ⟨q, x2 p q⟩
  · right
    rw [if_pos (by omega)]
    exact ⟨by omega, h3 p (by omega), by decide⟩
/-- what a letter stands for -/
noncomputable def evl (i17 i18 i19 i22 i23 i24 : Int32) (c : Int) : Int32 := F_x6_letterValue (Int32.ofInt c) i17 i18 i19 i22 i23 i24
theorem evl_of {u : Int32} {c : Int} (h : u.toInt = c) : F_x6_letterValue u i17 i18 i19 i22 i23 i24 = evl i17 i18 i19 i22 i23 i24 c := by
  have e : u = Int32.ofInt c := by rw [← h]; exact (Int32.ofInt_toInt u).symm
  unfold evl; rw [← e]
theorem isd {u : Int32} : ((48 ≤ u.toInt ∧ u.toInt ≤ 57) ∧ F_x6_isDigit u = 1) ∨ (¬ (48 ≤ u.toInt ∧ u.toInt ≤ 57) ∧ F_x6_isDigit u = 0) := by
  rw [E_x6_isDigit]
  by_cases h : u.toInt < 48
  · right; rw [if_pos h]; exact ⟨by omega, rfl⟩
  · rw [if_neg h]
    by_cases g : u.toInt > 57
    · right; rw [if_pos g]; exact ⟨by omega, rfl⟩
    · left; rw [if_neg g]; exact ⟨by omega, rfl⟩
theorem ist {u : Int32} : ((u.toInt = 42 ∨ u.toInt = 47 ∨ u.toInt = 37) ∧ F_x6_isTermSign u = 1) ∨ (¬ (u.toInt = 42 ∨ u.toInt = 47 ∨ u.toInt = 37) ∧ F_x6_isTermSign u = 0) := by
  rw [E_x6_isTermSign]
  by_cases h1 : u.toInt = 42
  · left; rw [if_pos h1]; exact ⟨Or.inl h1, rfl⟩
  · rw [if_neg h1]
    by_cases h2 : u.toInt = 47
    · left; rw [if_pos h2]; exact ⟨Or.inr (Or.inl h2), rfl⟩
    · rw [if_neg h2]
      by_cases h3 : u.toInt = 37
      · left; rw [if_neg (by omega)]; exact ⟨Or.inr (Or.inr h3), rfl⟩
      · right; rw [if_pos h3]; exact ⟨by omega, rfl⟩
theorem num_loop (hT : TXT T n) (hx : TXE T n ptn ptc) : ∀ (j m : Nat) (x c y : Int32) (p k : Nat) (v : Int), j ≤ 5 → x.toInt = v → 0 ≤ v → v < bd j → c.toInt = (k : Int) → k + j ≤ 100 → j < m → y.toInt = (p : Int) → p ≤ n → ¬ (48 ≤ T (nl T j p v).2 ∧ T (nl T j p v).2 ≤ 57) →
    ∃ X Y : Int32, f_x6_numberThere_j1 ptn ptc m x c y = (X, Y) ∧ X.toInt = (nl T j p v).1 ∧ Y.toInt = ((nl T j p v).2 : Int) := by
  have h160 := hT.1
  intro j
  induction j with
  | zero =>
    intro m x c y p k v _ hv _ _ hc hk hm hy hp hn
    obtain ⟨m, rfl⟩ : ∃ q, m = q + 1 := ⟨m - 1, by omega⟩
    have hs := sg6 hT hx hy
    have hn' : ¬ (48 ≤ T p ∧ T p ≤ 57) := hn
    rw [S_x6_numberThere_j1, if_neg (by omega)]
    rcases isd (u := F_x6_sign y ptn ptc) with ⟨h, _⟩ | ⟨_, h⟩
    · omega
    · rw [h, if_pos y00]; exact ⟨x, y, rfl, hv, hy⟩
  | succ j ih =>
    intro m x c y p k v hj hv h0 hb hc hk hm hy hp hn
    obtain ⟨m, rfl⟩ : ∃ q, m = q + 1 := ⟨m - 1, by omega⟩
    have hs := sg6 hT hx hy
    rw [S_x6_numberThere_j1, if_neg (by omega)]
    by_cases w : 48 ≤ T p ∧ T p ≤ 57
    · have hpn := T_in hT (p := p) (by omega)
      rcases isd (u := F_x6_sign y ptn ptc) with ⟨h1, h⟩ | ⟨h1, h⟩
      · rw [h, if_neg n10]
        rw [nl_s w] at hn ⊢
        have e := bd_s (k := j) (by omega)
        have eb := bd_l j
        have e10 := c10
        have e48 := c48
        have g1 : (x * (10 : Int32)).toInt = v * 10 := toInt_mul hv c10 rfl (by omega) (by omega)
        have hs' : (F_x6_sign y ptn ptc).toInt = T p := by omega
        have g2 := toInt_add g1 hs' (by omega) (by omega)
        have g3 := toInt_sub g2 c48 (by omega) (by omega)
        have o1 := co1
        have g4 := toInt_add hc co1 (by omega) (by omega)
        exact ih m _ _ _ (p + 1) (k + 1) (10 * v + T p - 48) (by omega) (by omega) (by omega) (by omega) (by omega) (by omega) (by omega) (suc_of hy (by omega)) (by omega) hn
      · omega
    · rcases isd (u := F_x6_sign y ptn ptc) with ⟨h1, h⟩ | ⟨_, h⟩
      · omega
      · rw [h, if_pos y00, nl_z w]; exact ⟨x, y, rfl, hv, hy⟩
theorem num_there (hT : TXT T n) (hx : TXE T n ptn ptc) {y : Int32} {p : Nat} (hy : y.toInt = (p : Int)) (hp : p ≤ n) (h : (spN T 99999 p).1 = 0) :
    ∃ Y : Int32, F_x6_numberThere y ptn ptc = (Int32.ofInt (spN T 99999 p).2.2, Y) ∧ Y.toInt = ((spN T 99999 p).2.1 : Int) := by
  have s := spN_at hT hp h
  unfold spN at h s ⊢
  by_cases h1 : (nl T 5 p 0).2 = p
  · rw [if_pos h1] at h; exact absurd (show -1000 - (p : Int) = 0 from h) (by omega)
  · rw [if_neg h1] at h s ⊢
    by_cases h2 : 48 ≤ T (nl T 5 p 0).2 ∧ T (nl T 5 p 0).2 ≤ 57
    · rw [if_pos h2] at h; exact absurd (show -2000 - ((nl T 5 p 0).2 : Int) = 0 from h) (by omega)
    · rw [if_neg h2] at h s ⊢
      by_cases h3 : 99999 < (nl T 5 p 0).1
      · rw [if_pos h3] at h; exact absurd (show -3000 - (p : Int) = 0 from h) (by omega)
      · rw [if_neg h3] at s ⊢
        obtain ⟨X, Y, e, g1, g2⟩ := num_loop hT hx 5 161 0 0 y p 0 0 (by omega) c0 (by omega) (by decide) c0 (by omega) (by omega) hy hp h2
        have s3 : 0 ≤ (nl T 5 p 0).1 := s.2.2.1
        have eX : X = Int32.ofInt (nl T 5 p 0).1 := by rw [← g1]; exact (Int32.ofInt_toInt X).symm
        refine ⟨Y, ?_, g2⟩
        rw [E_x6_numberThere, e, eX]
/-! one step of each loop -/
section STEP
variable {u0 u1 x c y rf : Int32} {m : Nat} {g : Int32 → Int32 → Int32 → Int32 → Int32 → Int32 → Int32 → Int32 → Int32 → Int32 → Nat → (Nat → Int32) → Int32 × Int32 × Int32}
theorem tj_n (h : ¬ ((F_x6_sign y ptn ptc).toInt = 42 ∨ (F_x6_sign y ptn ptc).toInt = 47 ∨ (F_x6_sign y ptn ptc).toInt = 37)) : f_x6_reckonTerm_j11 u0 u1 i17 i18 i19 i22 i23 i24 ptn ptc g (m + 1) x c y rf = (x, y, rf) := by
  rw [S_x6_reckonTerm_j11]
  by_cases hc : c.toInt ≥ 160
  · rw [if_pos hc]
  · rw [if_neg hc]
    rcases ist (u := F_x6_sign y ptn ptc) with ⟨q, _⟩ | ⟨_, q⟩
    · exact absurd q h
    · rw [q, if_pos y00]
theorem sj_n (h : ¬ ((F_x6_sign y ptn ptc).toInt = 43 ∨ (F_x6_sign y ptn ptc).toInt = 45)) : f_x6_reckonSum_j11 u0 u1 i17 i18 i19 i22 i23 i24 ptn ptc g (m + 1) x c y rf = (x, y, rf) := by
  rw [S_x6_reckonSum_j11]
  by_cases hc : c.toInt ≥ 160
  · rw [if_pos hc]
  · rw [if_neg hc, if_neg (fun q => h (Or.inl q)), if_pos (fun q => h (Or.inr q))]
/-- a value and the flag behind a factor, with a sign that waits -/
def tst (z : PD) (A B : Bool) (v : Int32) (r : Bool) : Bool := match z with
  | none => B
  | some q => B || (A && ((decide (q.1 = 47) || decide (q.1 = 37)) && decide (v.toInt = 0)))
theorem tj_y {A B : Bool} {q v : Int32} {s : Int} (hs : (F_x6_sign y ptn ptc).toInt = s) (h : s = 42 ∨ s = 47 ∨ s = 37) (hc : c.toInt < 160) {r : Bool} (hg : g (bI A) u1 i17 i18 i19 i22 i23 i24 (y + 1) rf ptn ptc = (v, q, bI B)) : f_x6_reckonTerm_j11 (bI A) u1 i17 i18 i19 i22 i23 i24 ptn ptc g (m + 1) x c y rf = f_x6_reckonTerm_j11 (bI A) u1 i17 i18 i19 i22 i23 i24 ptn ptc g m (dox s (x, r) (v, false)).1 (c + Int32.ofInt 1) q (bI (tst (some (s, x, r)) A B v false)) := by
  rw [S_x6_reckonTerm_j11, if_neg (by omega)]
  rcases ist (u := F_x6_sign y ptn ptc) with ⟨_, e⟩ | ⟨e, _⟩
  · rw [e, if_neg n10, hg, dox_ar (by omega) (by omega)]
    dsimp only
    rcases h with h | h | h
    · rw [if_neg (by omega)]
      subst h
      have e3 : tst (some ((42 : Int), x, r)) A B v false = B := by cases A <;> cases B <;> rfl
      rw [e3]; rfl
    · rw [if_pos (by omega)]
      subst h
      by_cases w : v.toInt = 0
      · have e2 : F_m12_worked (Int32.ofInt 47) x v = 0 := by rw [wk_div, if_neg (fun z => z w)]
        have e3 : tst (some ((47 : Int), x, r)) A B v false = (B || A) := by
          show (B || (A && ((decide ((47 : Int) = 47) || decide ((47 : Int) = 37)) && decide (v.toInt = 0)))) = _
          rw [decide_eq_true w]; cases A <;> cases B <;> rfl
        rw [if_neg (fun z => z w), e2, e3]
        cases B with
        | true => rw [if_pos (show (bI true).toInt ≠ 0 by decide)]; rfl
        | false =>
          rw [if_neg (show ¬ (bI false).toInt ≠ 0 by decide)]
          cases A with
          | true => rw [if_neg (show ¬ (bI true).toInt = 0 by decide)]; rfl
          | false => rw [if_pos (show (bI false).toInt = 0 by decide)]; rfl
      · have e2 : F_m12_worked (Int32.ofInt 47) x v = x / v := by rw [wk_div, if_pos w]
        have e3 : tst (some ((47 : Int), x, r)) A B v false = B := by
          show (B || (A && ((decide ((47 : Int) = 47) || decide ((47 : Int) = 37)) && decide (v.toInt = 0)))) = _
          rw [decide_eq_false w]; cases A <;> cases B <;> rfl
        rw [if_pos w, if_neg (fun z => z (by omega)), e2, e3]
    · rw [if_pos (by omega)]
      subst h
      by_cases w : v.toInt = 0
      · have e2 : F_m12_worked (Int32.ofInt 37) x v = 0 := by rw [wk_mod, if_neg (fun z => z w)]
        have e3 : tst (some ((37 : Int), x, r)) A B v false = (B || A) := by
          show (B || (A && ((decide ((37 : Int) = 47) || decide ((37 : Int) = 37)) && decide (v.toInt = 0)))) = _
          rw [decide_eq_true w]; cases A <;> cases B <;> rfl
        rw [if_neg (fun z => z w), e2, e3]
        cases B with
        | true => rw [if_pos (show (bI true).toInt ≠ 0 by decide)]; rfl
        | false =>
          rw [if_neg (show ¬ (bI false).toInt ≠ 0 by decide)]
          cases A with
          | true => rw [if_neg (show ¬ (bI true).toInt = 0 by decide)]; rfl
          | false => rw [if_pos (show (bI false).toInt = 0 by decide)]; rfl
      · have e2 : F_m12_worked (Int32.ofInt 37) x v = x - x / v * v := by rw [wk_mod, if_pos w]
        have e3 : tst (some ((37 : Int), x, r)) A B v false = B := by
          show (B || (A && ((decide ((37 : Int) = 47) || decide ((37 : Int) = 37)) && decide (v.toInt = 0)))) = _
          rw [decide_eq_false w]; cases A <;> cases B <;> rfl
        rw [if_pos w, if_pos (by omega), e2, e3]
  · omega
theorem sj_y {s : Int} {r r2 : Bool} (hs : (F_x6_sign y ptn ptc).toInt = s) (h : s = 43 ∨ s = 45) (hc : c.toInt < 160) {t : Int32 × Int32 × Int32} (hg : g u0 u1 i17 i18 i19 i22 i23 i24 (y + 1) rf ptn ptc = t) : f_x6_reckonSum_j11 u0 u1 i17 i18 i19 i22 i23 i24 ptn ptc g (m + 1) x c y rf = f_x6_reckonSum_j11 u0 u1 i17 i18 i19 i22 i23 i24 ptn ptc g m (dox s (x, r) (t.1, r2)).1 (c + Int32.ofInt 1) t.2.1 t.2.2 := by
  subst hg
  rw [S_x6_reckonSum_j11, if_neg (by omega), dox_ar (by omega) (by omega)]
  rcases h with h | h
  · subst h
    rw [if_pos hs, if_neg (fun z => z hs), if_neg n10]
    rfl
  · subst h
    rw [if_neg (by omega), if_neg (fun z => z hs), if_pos (by omega), if_pos y00]
    rfl
end STEP
/-- behind the terms: the class goes on with its sum -/
noncomputable def SLp (u0 u1 i17 i18 i19 i22 i23 i24 : Int32) (ptn : Nat) (ptc : Nat → Int32) (d : Nat) (sp : PD) (m2 : Nat) (c2 : Int32) (t : Int32 × Int32 × Int32) : Int32 × Int32 × Int32 :=
  f_x6_reckonSum_j11 u0 u1 i17 i18 i19 i22 i23 i24 ptn ptc (G_x6_reckonTerm d) m2 (oV sp (t.1, false)).1 c2 t.2.1 t.2.2
/-- behind a factor: the class goes on with its term, then with its sum -/
noncomputable def TLp (u0 u1 i17 i18 i19 i22 i23 i24 : Int32) (ptn : Nat) (ptc : Nat → Int32) (d : Nat) (sp : PD) (m1 m2 : Nat) (x c1 c2 y rf : Int32) : Int32 × Int32 × Int32 :=
  SLp u0 u1 i17 i18 i19 i22 i23 i24 ptn ptc d sp m2 c2 (f_x6_reckonTerm_j11 u0 u1 i17 i18 i19 i22 i23 i24 ptn ptc (G_x6_reckonFactor d) m1 x c1 y rf)
theorem gS_e {d : Nat} {u0 u1 y rf : Int32} : G_x6_reckonSum d u0 u1 i17 i18 i19 i22 i23 i24 y rf ptn ptc = TLp u0 u1 i17 i18 i19 i22 i23 i24 ptn ptc d none 161 161 (G_x6_reckonFactor d u0 u1 i17 i18 i19 i22 i23 i24 y rf ptn ptc).1 0 0 (G_x6_reckonFactor d u0 u1 i17 i18 i19 i22 i23 i24 y rf ptn ptc).2.1 (G_x6_reckonFactor d u0 u1 i17 i18 i19 i22 i23 i24 y rf ptn ptc).2.2 := rfl
theorem gT_e {d : Nat} {u0 u1 y rf : Int32} : G_x6_reckonTerm d u0 u1 i17 i18 i19 i22 i23 i24 y rf ptn ptc = f_x6_reckonTerm_j11 u0 u1 i17 i18 i19 i22 i23 i24 ptn ptc (G_x6_reckonFactor d) 161 (G_x6_reckonFactor d u0 u1 i17 i18 i19 i22 i23 i24 y rf ptn ptc).1 0 (G_x6_reckonFactor d u0 u1 i17 i18 i19 i22 i23 i24 y rf ptn ptc).2.1 (G_x6_reckonFactor d u0 u1 i17 i18 i19 i22 i23 i24 y rf ptn ptc).2.2 := rfl
def EF0 (T : Nat → Int) (n ptn : Nat) (ptc : Nat → Int32) (i17 i18 i19 i22 i23 i24 : Int32) (k : Nat) : Prop := ∀ (p o d : Nat) (A B : Bool) (u1 y : Int32), (sp T k 0 o p).1 = 0 → p ≤ n → 4 * (n + 1 - p) + 0 < k → o + d = 7 → 1 ≤ o → o ≤ 6 → u1.toInt = (o : Int) → y.toInt = (p : Int) →
  ∃ (v : Int32) (r : Bool) (q : Int32), (∀ st, exo (evl i17 i18 i19 i22 i23 i24) (cm T k 0 o [] p) st = some ((v, r) :: st)) ∧ G_x6_reckonFactor d (bI A) u1 i17 i18 i19 i22 i23 i24 y (bI B) ptn ptc = (v, q, bI (B || (A && r))) ∧ q.toInt = ((sp T k 0 o p).2 : Int)
/-- the value that a factor makes with the sign that waits -/
def ES1 (T : Nat → Int) (n ptn : Nat) (ptc : Nat → Int32) (i17 i18 i19 i22 i23 i24 : Int32) (k : Nat) : Prop := ∀ (p o d m1 m2 k1 k2 : Nat) (tp sq : PD) (A B B0 : Bool) (u1 y c1 c2 : Int32), tO tp → sO sq → (sp T k 1 o p).1 = 0 → p ≤ n → 4 * (n + 1 - p) + 1 < k → o + d = 7 → 1 ≤ o → o ≤ 6 → u1.toInt = (o : Int) → y.toInt = (p : Int) → c1.toInt = (k1 : Int) → c2.toInt = (k2 : Int) → k1 ≤ p → k2 ≤ p → 161 ≤ m1 + k1 → 161 ≤ m2 + k2 → B = (B0 || (A && (oR tp || oR sq))) →
  ∃ (V : Int32) (R : Bool) (q v qf rf : Int32) (r : Bool), (∀ st, exo (evl i17 i18 i19 i22 i23 i24) (cm T k 1 o (oL tp ++ oL sq) p) (oS tp (oS sq st)) = some ((V, R) :: st)) ∧ G_x6_reckonFactor d (bI A) u1 i17 i18 i19 i22 i23 i24 y (bI B) ptn ptc = (v, qf, bI (B || (A && r))) ∧
    TLp (bI A) u1 i17 i18 i19 i22 i23 i24 ptn ptc d sq m1 m2 (oV tp (v, r)).1 c1 c2 qf (bI (tst tp A (B || (A && r)) v r)) = (V, q, bI (B0 || (A && R))) ∧ q.toInt = ((sp T k 1 o p).2 : Int)
theorem e_fac {k : Nat} (hT : TXT T n) (hx : TXE T n ptn ptc) (ih : ES1 T n ptn ptc i17 i18 i19 i22 i23 i24 k) : EF0 T n ptn ptc i17 i18 i19 i22 i23 i24 (k + 1) := by
  have h160 := hT.1
  intro p o d A B u1 y hs hp hk hod h1 h6 hu hy
  have hsg := sg6 hT hx hy
  have eG : G_x6_reckonFactor d (bI A) u1 i17 i18 i19 i22 i23 i24 y (bI B) ptn ptc = B_x6_reckonFactor (bI A) u1 i17 i18 i19 i22 i23 i24 y (bI B) ptn ptc (P_x6_reckonSum d) := rfl
  rw [eG, E_x6_reckonFactor, if_pos (by omega)]
  rw [sp_0] at hs ⊢
  rw [cm_0]
  by_cases h91 : T p = 91
  · have hpn := T_in hT (p := p) (by omega)
    rw [if_pos h91] at hs ⊢
    rw [if_pos h91, if_neg (show ¬ (F_x6_sign y ptn ptc).toInt ≠ 91 by omega)]
    by_cases ho : 6 ≤ o
    · rw [if_pos ho] at hs; exact absurd (show -5000 - (p : Int) = 0 from hs) (by omega)
    · rw [if_neg ho] at hs ⊢
      have g1 := seq_0 hs
      rw [seq_y g1] at hs ⊢
      have hs : (if T (sp T k 1 (o + 1) (p + 1)).2 = 93 then (0, (sp T k 1 (o + 1) (p + 1)).2 + 1) else (-1000 - ((sp T k 1 (o + 1) (p + 1)).2 : Int), (sp T k 1 (o + 1) (p + 1)).2) : Int × Nat).1 = 0 := hs
      obtain ⟨V, R, q, v, qf, rf, r, e1, e2, e3, e4⟩ := ih (p + 1) (o + 1) (d - 1) 161 161 0 0 none none A B B (u1 + 1) (y + 1) 0 0 tO_n sO_n g1 (by omega) (by omega) (by omega) (by omega) (by omega) (suc_of hu (by omega)) (suc_of hy (by omega)) c0 c0 (by omega) (by omega) (by omega) (by omega) (by cases A <;> cases B <;> rfl)
      have eS : P_x6_reckonSum d (bI A) (u1 + 1) i17 i18 i19 i22 i23 i24 (y + 1) (bI B) ptn ptc = (V, q, bI (B || (A && R))) := by
        rw [P_x6_reckonSum_pred (by omega), gS_e, e2]
        exact e3
      have w : T (sp T k 1 (o + 1) (p + 1)).2 = 93 := by
        by_cases w : T (sp T k 1 (o + 1) (p + 1)).2 = 93
        · exact w
        · rw [if_neg w] at hs; exact absurd (show -1000 - ((sp T k 1 (o + 1) (p + 1)).2 : Int) = 0 from hs) (by omega)
      have wn := T_in hT (p := (sp T k 1 (o + 1) (p + 1)).2) (by omega)
      refine ⟨V, R, q + 1, e1, by rw [eS], ?_⟩
      show _ = ((if T (sp T k 1 (o + 1) (p + 1)).2 = 93 then (0, (sp T k 1 (o + 1) (p + 1)).2 + 1) else (-1000 - ((sp T k 1 (o + 1) (p + 1)).2 : Int), (sp T k 1 (o + 1) (p + 1)).2) : Int × Nat).2 : Int)
      rw [if_pos w]
      exact suc_of e4 (by omega)
  · rw [if_neg h91] at hs ⊢
    rw [if_neg h91, if_pos (show (F_x6_sign y ptn ptc).toInt ≠ 91 by omega)]
    by_cases hd : 48 ≤ T p ∧ T p ≤ 57
    · have hpn := T_in hT (p := p) (by omega)
      rw [if_pos hd] at hs ⊢
      rw [if_pos hd]
      obtain ⟨Y, e1, e2⟩ := num_there hT hx hy hp hs
      rcases isd (u := F_x6_sign y ptn ptc) with ⟨_, e⟩ | ⟨e, _⟩
      · rw [e, if_neg n10, e1]
        exact ⟨Int32.ofInt (spN T 99999 p).2.2, false, Y, fun st => exo_cons ex_num, by cases A <;> cases B <;> rfl, e2⟩
      · omega
    · rw [if_neg hd] at hs ⊢
      rw [if_neg hd]
      by_cases hl : T p = 98 ∨ T p = 99 ∨ T p = 100 ∨ T p = 109 ∨ T p = 110 ∨ T p = 118
      · have hpn := T_in hT (p := p) (by omega)
        rw [if_pos hl]
        rcases isd (u := F_x6_sign y ptn ptc) with ⟨e, _⟩ | ⟨_, e⟩
        · omega
        · rw [e, if_pos y00, evl_of (show (F_x6_sign y ptn ptc).toInt = T p by omega)]
          exact ⟨evl i17 i18 i19 i22 i23 i24 (T p), false, y + 1, fun st => exo_cons ex_let, by cases A <;> cases B <;> rfl, suc_of hy (by omega)⟩
      · rw [if_neg hl] at hs; exact absurd (show -1000 - (p : Int) = 0 from hs) (by omega)
theorem oV_R {z : PD} {x : VR} (hz : tO z ∨ sO z) : (oV z x).2 = (oR z || x.2 || (match z with | none => false | some q => (decide (q.1 = 47) || decide (q.1 = 37)) && decide (x.1.toInt = 0))) := by
  cases z with
  | none => show x.2 = (false || x.2 || false); cases x.2 <;> rfl
  | some q =>
    have h : q.1 ≠ 38 ∧ q.1 ≠ 124 := by
      rcases hz with h | h
      · have := h q rfl; omega
      · have := h q rfl; omega
    show (dox q.1 q.2 x).2 = _
    rw [dox_ar h.1 h.2]; rfl
theorem oV_1 {z : PD} {x : Int32} {a b : Bool} (hz : tO z ∨ sO z) : (oV z (x, a)).1 = (oV z (x, b)).1 := by
  cases z with
  | none => rfl
  | some q =>
    have h : q.1 ≠ 38 ∧ q.1 ≠ 124 := by
      rcases hz with h | h
      · have := h q rfl; omega
      · have := h q rfl; omega
    show (dox q.1 q.2 (x, a)).1 = (dox q.1 q.2 (x, b)).1
    rw [dox_ar h.1 h.2, dox_ar h.1 h.2]
theorem oV_sR {z : PD} {x : VR} (hz : sO z) : (oV z x).2 = (oR z || x.2) := by
  rw [oV_R (Or.inr hz)]
  cases z with
  | none => show (false || x.2 || false) = _; cases x.2 <;> rfl
  | some q =>
    have h := hz q rfl
    show (oR (some q) || x.2 || ((decide (q.1 = 47) || decide (q.1 = 37)) && decide (x.1.toInt = 0))) = _
    rw [decide_eq_false (by omega : ¬ q.1 = 47), decide_eq_false (by omega : ¬ q.1 = 37)]
    cases oR (some q) <;> cases x.2 <;> rfl
theorem tst_R {z : PD} {A B0 B : Bool} {v : Int32} {r s : Bool} (hz : tO z) (hB : B = (B0 || (A && (oR z || s)))) : tst z A (B || (A && r)) v r = (B0 || (A && ((oV z (v, r)).2 || s))) := by
  rw [oV_R (Or.inl hz), hB]
  cases z with
  | none =>
    show ((B0 || (A && (false || s))) || (A && r)) = (B0 || (A && ((false || r || false) || s)))
    cases A <;> cases B0 <;> cases s <;> cases r <;> rfl
  | some q =>
    show (((B0 || (A && (q.2.2 || s))) || (A && r)) || (A && ((decide (q.1 = 47) || decide (q.1 = 37)) && decide (v.toInt = 0)))) = (B0 || (A && ((q.2.2 || r || ((decide (q.1 = 47) || decide (q.1 = 37)) && decide (v.toInt = 0))) || s)))
    generalize ((decide (q.1 = 47) || decide (q.1 = 37)) && decide (v.toInt = 0)) = w
    generalize q.2.2 = w2
    cases A <;> cases B0 <;> cases s <;> cases r <;> cases w <;> cases w2 <;> rfl
theorem e_sum {k : Nat} (hT : TXT T n) (hx : TXE T n ptn ptc) (ih : ES1 T n ptn ptc i17 i18 i19 i22 i23 i24 k) (ihf : EF0 T n ptn ptc i17 i18 i19 i22 i23 i24 k) : ES1 T n ptn ptc i17 i18 i19 i22 i23 i24 (k + 1) := by
  have h160 := hT.1
  intro p o d m1 m2 k1 k2 tp sq A B B0 u1 y c1 c2 htp hsq hs hp hk hod h1 h6 hu hy hc1 hc2 hk1 hk2 hm1 hm2 hB
  rw [sp_1] at hs ⊢
  have s1 := seq_0 hs
  rw [seq_y s1] at hs ⊢
  obtain ⟨v, r, qf, f1, f2, f3⟩ := ihf p o d A B u1 y s1 hp (by omega) hod h1 h6 hu hy
  have O : p < (sp T k 0 o p).2 ∧ (sp T k 0 o p).2 ≤ n := by
    rcases sp_ok hT k 0 o p (by omega) hp (by omega) with ⟨_, a, b⟩ | a
    · exact ⟨a, b⟩
    · omega
  rw [cm_1]
  generalize (sp T k 0 o p).2 = q0 at hs f3 O ⊢
  have hsg := sg6 hT hx f3
  have hs : ((if opT (T q0) = true ∨ opS (T q0) = true then sp T k 1 o (q0 + 1) else (0, q0)) : Int × Nat).1 = 0 := hs
  show ∃ (V : Int32) (R : Bool) (q v qf rf : Int32) (r : Bool), _ ∧ _ ∧ _ ∧ q.toInt = (((if opT (T q0) = true ∨ opS (T q0) = true then sp T k 1 o (q0 + 1) else (0, q0)) : Int × Nat).2 : Int)
  have h2tp : ∀ q, tp = some q → 2 < q.1 := fun q e => by have := htp q e; omega
  have h2sq : ∀ q, sq = some q → 2 < q.1 := fun q e => by have := hsq q e; omega
  have hB' : B = (B0 || (A && (oR tp || oR sq))) := hB
  have eT := tst_R (v := v) (r := r) htp hB'
  obtain ⟨m1, rfl⟩ : ∃ w, m1 = w + 1 := ⟨m1 - 1, by omega⟩
  obtain ⟨m2, rfl⟩ : ∃ w, m2 = w + 1 := ⟨m2 - 1, by omega⟩
  have ex0 : ∀ st, exo (evl i17 i18 i19 i22 i23 i24) (cm T k 0 o [] p) (oS tp (oS sq st)) = some ((v, r) :: oS tp (oS sq st)) := fun st => f1 _
  have ex1' : ∀ st, exo (evl i17 i18 i19 i22 i23 i24) (em (oL tp)) ((v, r) :: oS tp (oS sq st)) = some (oV tp (v, r) :: oS sq st) := fun st => exo_o h2tp
  have ex2' : ∀ st, exo (evl i17 i18 i19 i22 i23 i24) (em (oL sq)) (oV tp (v, r) :: oS sq st) = some (oV sq (oV tp (v, r)) :: st) := fun st => exo_o h2sq
  have hfr := fR_o htp hsq
  by_cases wT : opT (T q0) = true
  · -- a sign of a term
    have w3 := opT_i wT
    have wS : opS (T q0) = false := by
      cases e : opS (T q0) with
      | false => rfl
      | true => have := opS_i e; omega
    rw [if_pos (Or.inl wT)] at hs ⊢
    rw [if_pos (Or.inl wT), wS, hfr.1, hfr.2]
    have hqn := T_in hT (p := q0) (by omega)
    have hc1' := toInt_add hc1 co1 (by have := co1; omega) (by have := co1; omega)
    obtain ⟨V, R, q, v2, qf2, rf2, r2, e1, e2, e3, e4⟩ := ih (q0 + 1) o d m1 (m2 + 1) (k1 + 1) k2 (some (T q0, oV tp (v, r))) sq A (B0 || (A && ((oV tp (v, r)).2 || oR sq))) B0 u1 (qf + 1) (c1 + Int32.ofInt 1) c2 (tO_s w3) hsq hs (by omega) (by omega) hod h1 h6 hu (suc_of f3 (by omega)) (by have := co1; omega) hc2 (by omega) (by omega) (by omega) (by omega) rfl
    refine ⟨V, R, q, v, qf, rf2, r, fun st => ?_, f2, ?_, e4⟩
    · rw [exo_then (ex0 st), exo_then (ex1' st)]
      exact e1 st
    · rw [eT]
      unfold TLp at e3 ⊢
      rw [tj_y (r := (oV tp (v, r)).2) (s := T q0) (by omega) w3 (by omega) e2]
      have et : tst (some (T q0, (oV tp (v, r)).1, (oV tp (v, r)).2)) A ((B0 || (A && ((oV tp (v, r)).2 || oR sq))) || (A && r2)) v2 false = tst (some (T q0, oV tp (v, r))) A ((B0 || (A && ((oV tp (v, r)).2 || oR sq))) || (A && r2)) v2 r2 := rfl
      have ev1 : (dox (T q0) ((oV tp (v, r)).1, (oV tp (v, r)).2) (v2, false)).1 = (oV (some (T q0, oV tp (v, r))) (v2, r2)).1 := oV_1 (z := some (T q0, oV tp (v, r))) (Or.inl (tO_s w3))
      rw [et, ev1]
      exact e3
  · have eTL : f_x6_reckonTerm_j11 (bI A) u1 i17 i18 i19 i22 i23 i24 ptn ptc (G_x6_reckonFactor d) (m1 + 1) (oV tp (v, r)).1 c1 qf (bI (B0 || (A && ((oV tp (v, r)).2 || oR sq)))) = ((oV tp (v, r)).1, qf, bI (B0 || (A && ((oV tp (v, r)).2 || oR sq)))) := by
      have := opT_o wT
      exact tj_n (by omega)
    have eO1 : (oV sq ((oV tp (v, r)).1, false)).1 = (oV sq (oV tp (v, r))).1 := oV_1 (z := sq) (Or.inr hsq)
    have eO2 : (oV sq (oV tp (v, r))).2 = ((oV tp (v, r)).2 || oR sq) := by
      rw [oV_sR hsq]; cases oR sq <;> cases (oV tp (v, r)).2 <;> rfl
    by_cases wS : opS (T q0) = true
    · have w3 := opS_i wS
      rw [if_pos (Or.inr wS)] at hs ⊢
      rw [if_pos (Or.inr wS), wS, fR_t, fE_t, em_app]
      have hqn := T_in hT (p := q0) (by omega)
      have hc2' := toInt_add hc2 co1 (by have := co1; omega) (by have := co1; omega)
      obtain ⟨V, R, q, v2, qf2, rf2, r2, e1, e2, e3, e4⟩ := ih (q0 + 1) o d 161 m2 0 (k2 + 1) none (some (T q0, oV sq (oV tp (v, r)))) A (B0 || (A && ((oV tp (v, r)).2 || oR sq))) B0 u1 (qf + 1) 0 (c2 + Int32.ofInt 1) tO_n (sO_s w3) hs (by omega) (by omega) hod h1 h6 hu (suc_of f3 (by omega)) c0 (by have := co1; omega) (by omega) (by omega) (by omega) (by omega) (by
        show _ = (B0 || (A && (false || (oV sq (oV tp (v, r))).2)))
        rw [eO2]; cases A <;> cases B0 <;> cases oR sq <;> cases (oV tp (v, r)).2 <;> rfl)
      refine ⟨V, R, q, v, qf, rf2, r, fun st => ?_, f2, ?_, e4⟩
      · rw [exo_then (ex0 st), List.append_assoc, exo_then (ex1' st), exo_then (ex2' st)]
        exact e1 st
      · rw [eT]
        unfold TLp SLp at e3 ⊢
        rw [eTL]
        dsimp only
        have eg : G_x6_reckonTerm d (bI A) u1 i17 i18 i19 i22 i23 i24 (qf + 1) (bI (B0 || (A && ((oV tp (v, r)).2 || oR sq)))) ptn ptc = f_x6_reckonTerm_j11 (bI A) u1 i17 i18 i19 i22 i23 i24 ptn ptc (G_x6_reckonFactor d) 161 v2 0 qf2 (bI ((B0 || (A && ((oV tp (v, r)).2 || oR sq))) || (A && r2))) := by
          rw [gT_e, e2]
        rw [sj_y (r := false) (r2 := false) (s := T q0) (by omega) w3 (by omega) eg]
        have e3' : f_x6_reckonSum_j11 (bI A) u1 i17 i18 i19 i22 i23 i24 ptn ptc (G_x6_reckonTerm d) m2 (oV (some (T q0, oV sq (oV tp (v, r)))) ((f_x6_reckonTerm_j11 (bI A) u1 i17 i18 i19 i22 i23 i24 ptn ptc (G_x6_reckonFactor d) 161 v2 0 qf2 (bI ((B0 || (A && ((oV tp (v, r)).2 || oR sq))) || (A && r2)))).1, false)).1 (c2 + Int32.ofInt 1) (f_x6_reckonTerm_j11 (bI A) u1 i17 i18 i19 i22 i23 i24 ptn ptc (G_x6_reckonFactor d) 161 v2 0 qf2 (bI ((B0 || (A && ((oV tp (v, r)).2 || oR sq))) || (A && r2)))).2.1 (f_x6_reckonTerm_j11 (bI A) u1 i17 i18 i19 i22 i23 i24 ptn ptc (G_x6_reckonFactor d) 161 v2 0 qf2 (bI ((B0 || (A && ((oV tp (v, r)).2 || oR sq))) || (A && r2)))).2.2 = (V, q, bI (B0 || (A && R))) := e3
        generalize f_x6_reckonTerm_j11 (bI A) u1 i17 i18 i19 i22 i23 i24 ptn ptc (G_x6_reckonFactor d) 161 v2 0 qf2 (bI ((B0 || (A && ((oV tp (v, r)).2 || oR sq))) || (A && r2))) = t at e3' ⊢
        rw [← e3']
        have ed : (dox (T q0) ((oV sq ((oV tp (v, r)).1, false)).1, false) (t.1, false)).1 = (oV (some (T q0, oV sq (oV tp (v, r)))) (t.1, false)).1 := by
          show _ = (dox (T q0) (oV sq (oV tp (v, r))) (t.1, false)).1
          rw [dox_ar (by omega) (by omega), dox_ar (by omega) (by omega), eO1]
        rw [ed]
    · have wn : ¬ (opT (T q0) = true ∨ opS (T q0) = true) := fun z => z.elim wT wS
      rw [if_neg wn, if_neg wn, em_app]
      refine ⟨(oV sq (oV tp (v, r))).1, (oV sq (oV tp (v, r))).2, qf, v, qf, 0, r, fun st => ?_, f2, ?_, f3⟩
      · rw [exo_then (ex0 st), exo_then (ex1' st)]
        exact ex2' st
      · rw [eT]
        unfold TLp SLp
        rw [eTL]
        dsimp only
        have := opS_o wS
        rw [sj_n (by omega), eO1, eO2]
theorem e_sums (hT : TXT T n) (hx : TXE T n ptn ptc) : ∀ k, ES1 T n ptn ptc i17 i18 i19 i22 i23 i24 k ∧ EF0 T n ptn ptc i17 i18 i19 i22 i23 i24 k := by
  intro k
  induction k with
  | zero => exact ⟨fun _ _ _ _ _ _ _ _ _ _ _ _ _ _ _ _ _ _ _ _ h => by omega, fun _ _ _ _ _ _ _ _ _ h => by omega⟩
  | succ k ih => exact ⟨e_sum hT hx ih.1 ih.2, e_fac hT hx ih.1⟩
/-- a whole sum -/
theorem e_all {k : Nat} (hT : TXT T n) (hx : TXE T n ptn ptc) {p o d : Nat} {A B : Bool} {u1 y : Int32} (hs : (sp T k 1 o p).1 = 0) (hp : p ≤ n) (hk : 4 * (n + 1 - p) + 1 < k) (hod : o + d = 7) (h1 : 1 ≤ o) (h6 : o ≤ 6) (hu : u1.toInt = (o : Int)) (hy : y.toInt = (p : Int)) :
    ∃ (v : Int32) (r : Bool) (q : Int32), (∀ st, exo (evl i17 i18 i19 i22 i23 i24) (cm T k 1 o [] p) st = some ((v, r) :: st)) ∧ G_x6_reckonSum d (bI A) u1 i17 i18 i19 i22 i23 i24 y (bI B) ptn ptc = (v, q, bI (B || (A && r))) ∧ q.toInt = ((sp T k 1 o p).2 : Int) := by
  obtain ⟨V, R, q, v, qf, rf, r, e1, e2, e3, e4⟩ := (e_sums hT hx k).1 p o d 161 161 0 0 none none A B B u1 y 0 0 tO_n sO_n hs hp hk hod h1 h6 hu hy c0 c0 (by omega) (by omega) (by omega) (by omega) (by cases A <;> cases B <;> rfl)
  refine ⟨V, R, q, e1, ?_, e4⟩
  rw [gS_e, e2]
  exact e3
end EVS
