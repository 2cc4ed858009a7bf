/-! the same on the class's side: the CLAUSES that it keeps -/
def HL (a37 : Nat → Int32) (i27 : Int32) (L : List Nat) : Prop := i27.toInt = (L.length : Int) ∧ ∀ (k c : Nat), L[k]? = some c → a37 k = Int32.ofNat c
theorem HL_add {a37 : Nat → Int32} {i27 cu : Int32} {L : List Nat} {c : Nat} (h : HL a37 i27 L) (hl : L.length < 1000) (hc : cu.toInt = (c : Int)) : HL (upd a37 i27.toNatClampNeg cu) (i27 + 1) (L ++ [c]) := by
  obtain ⟨h1, h2⟩ := h
  have e : (L ++ [c]).length = L.length + 1 := by rw [List.length_append]; rfl
  refine ⟨by rw [e]; exact suc_of h1 (by omega), fun k d hk => ?_⟩
  rw [nc h1]
  unfold upd
  by_cases w : k = L.length
  · subst w
    rw [List.getElem?_append_right (Nat.le_refl _), Nat.sub_self] at hk
    cases hk
    rw [if_pos rfl]; exact oN hc
  · have hlt : k < (L ++ [c]).length := (List.getElem?_eq_some_iff.mp hk).1
    rw [List.getElem?_append_left (by omega)] at hk
    rw [if_neg w]; exact h2 k d hk
/-- a CLAUSE speaks of one of the TOKENS -/
noncomputable def spB (b19 b20 b21 : Nat → Int32) (tok : Nat → Int32) : Nat → Nat → Nat → Bool
  | 0, _, _ => false
  | m + 1, k, c => mtB b19 b20 b21 c (tok k) || spB b19 b20 b21 tok m (k + 1) c
theorem spB_y {b19 b20 b21 tok : Nat → Int32} {c : Nat} : ∀ (m k q : Nat), k ≤ q → q < k + m → mtB b19 b20 b21 c (tok q) = true → spB b19 b20 b21 tok m k c = true := by
  intro m
  induction m with
  | zero => intro k q h1 h2 _; omega
  | succ m ih =>
    intro k q h1 h2 h
    show (mtB b19 b20 b21 c (tok k) || spB b19 b20 b21 tok m (k + 1) c) = true
    by_cases w : q = k
    · subst w; rw [h]; rfl
    · rw [ih (k + 1) q (by omega) (by omega) h]
      cases mtB b19 b20 b21 c (tok k) <;> rfl
section XQ
variable {v day i3 i6 i9 cu : Int32} {a7 a8 a13 a18 a19 a20 a21 a22 a23 a24 a25 a26 b2 b3 b4 b8 b15 b16 b17 b18 b19 b20 b21 b22 b23 b24 b25 b26 b5 : Nat → Int32} {r9n rtn : Nat → Nat} {r9c rtc : Nat → Nat → Int32} {c : Nat}
theorem x_num (hcu : cu.toInt = (c : Int)) (hc : c < 320) : F_x2_isNumber cu = 1 := by
  rw [E_x2_isNumber, if_neg (by omega), if_neg (by omega)]
theorem CLR_at (h9 : 0 ≤ i9.toInt ∧ i9.toInt ≤ 20) (hL : LAW i9 a18 a19 a20 a21 a22 a23 a24 a25 b15 b16 b17 b18 b19 b20 b21 b22) (hc : (c : Int) < 16 * i9.toInt) (hv : vld b18 c = true) : CLR a22 a23 a24 a25 b19 b20 b21 b22 c := by
  have hv' : ((c % 16 : Nat) : Int) < (b18 (c / 16)).toInt := of_decide_eq_true hv
  obtain ⟨_, _, _, _, _, l6⟩ := hL (c / 16) (by omega)
  exact l6 c (by omega) (by omega)
theorem speaks_of {x : Int32} (hcu : cu.toInt = (c : Int)) (hc : c < 320) (hR : CLR a22 a23 a24 a25 b19 b20 b21 b22 c) (hk : (b19 c).toInt = 119) : F_x2_speaksOf cu x a23 a24 = if mtB b19 b20 b21 c x = true then 1 else 0 := by
  obtain ⟨_, _, _, _, r5⟩ := hR
  obtain ⟨s1, s2, s3⟩ := r5 hk
  have em : mtB b19 b20 b21 c x = decide ((F_m12_isMeant cu x b19 b20 b21).toInt ≠ 0) := by unfold mtB; rw [oN hcu]
  rw [E_x2_speaksOf, x_num hcu hc, if_neg n10, em, E_m12_isMeant, nc hcu, if_neg (show ¬ (b19 c).toInt ≠ 119 from fun z => z hk)]
  by_cases w1 : (x / (4 : Int32)).toInt = (a23 c).toInt
  · rw [if_pos w1, if_neg (show ¬ (x / (4 : Int32)).toInt ≠ (b20 c).toInt by omega)]
    rcases s3 with ⟨t1, t2⟩ | ⟨t1, t2, t3⟩
    · rw [if_pos t1, if_pos t2, decide_eq_true y10, if_pos rfl]
    · rw [if_neg (show ¬ (a24 c).toInt = 4 by omega), if_neg (show ¬ (b21 c).toInt = -1 by omega)]
      by_cases w2 : (x - x / (4 : Int32) * (4 : Int32)).toInt ≠ (b21 c).toInt
      · rw [if_pos (show (a24 c).toInt ≠ (x - x / (4 : Int32) * (4 : Int32)).toInt by omega), if_pos w2, decide_eq_false (fun z => z y00), if_neg (by decide)]
      · rw [if_neg (show ¬ (a24 c).toInt ≠ (x - x / (4 : Int32) * (4 : Int32)).toInt by omega), if_neg w2, decide_eq_true y10, if_pos rfl]
  · rw [if_neg w1, if_pos (show (x / (4 : Int32)).toInt ≠ (b20 c).toInt by omega), decide_eq_false (fun z => z y00), if_neg (by decide)]
theorem any_loop {n1 : Nat} {f1 : Nat → Int32} (hcu : cu.toInt = (c : Int)) (hc : c < 320) (hR : CLR a22 a23 a24 a25 b19 b20 b21 b22 c) (hk : (b19 c).toInt = 119) (hn : n1 ≤ 1000) : ∀ (m f k : Nat) (x2 : Int32), x2.toInt = (k : Int) → n1 = k + m → m < f →
    f_x2_speaksOfAny_j1 cu n1 f1 a23 a24 f x2 = if spB b19 b20 b21 f1 m k c = true then 1 else 0 := by
  have o1 := co1
  have en : (Int32.ofNat n1).toInt = (n1 : Int) := nI_toInt (by omega)
  intro m
  induction m with
  | zero =>
    intro f k x2 hx hm hf
    obtain ⟨f, rfl⟩ : ∃ w, f = w + 1 := ⟨f - 1, by omega⟩
    rw [S_x2_speaksOfAny_j1, if_pos (by omega), if_neg (show ¬ spB b19 b20 b21 f1 0 k c = true from Bool.false_ne_true)]
  | succ m ih =>
    intro f k x2 hx hm hf
    obtain ⟨f, rfl⟩ : ∃ w, f = w + 1 := ⟨f - 1, by omega⟩
    have hx1 := toInt_add hx co1 (by omega) (by omega)
    rw [S_x2_speaksOfAny_j1, if_neg (by omega), nc hx, speaks_of hcu hc hR hk]
    have e : spB b19 b20 b21 f1 (m + 1) k c = (mtB b19 b20 b21 c (f1 k) || spB b19 b20 b21 f1 m (k + 1) c) := rfl
    rw [e]
    by_cases w : mtB b19 b20 b21 c (f1 k) = true
    · rw [w, if_pos rfl, if_neg n10]; rfl
    · have w' : mtB b19 b20 b21 c (f1 k) = false := by cases h : mtB b19 b20 b21 c (f1 k) with
        | true => exact absurd h w
        | false => rfl
      rw [w', if_neg Bool.false_ne_true, if_pos y00, ih f (k + 1) (x2 + Int32.ofInt 1) (by omega) (by omega) (by omega)]
      rfl
theorem cl_t {x21 x48 : Int32} {i j : Nat} (h1 : x21.toInt = (i : Int)) (h2 : x48.toInt = (j : Int)) (hi : i < 1000) (hj : j < 1000) : (F_x2_clauseOf x21 x48).toInt = ((16 * i + j : Nat) : Int) := by
  have m1 : (x21 * (16 : Int32)).toInt = (i : Int) * 16 := toInt_mul h1 c16i rfl (by omega) (by omega)
  have m2 := toInt_add m1 h2 (by omega) (by omega)
  show (x21 * (16 : Int32) + x48).toInt = _
  omega
/-- what is kept: turns that hold and speak of one of the TOKENS -/
noncomputable def gB (v day i6 i9 : Int32) (b2 b3 b4 b8 b15 b16 b17 b18 b19 b20 b21 b23 b24 b25 b26 : Nat → Int32) (n2 : Nat) (f2 : Nat → Int32) (c : Nat) : Bool := hwB 119 v day i6 i9 b2 b3 b4 b8 b15 b16 b17 b18 b19 b20 b21 b23 b24 b25 b26 c && spB b19 b20 b21 f2 n2 0 c
abbrev R14 := Int32 × Int32 × Int32 × Int32 × Int32 × Int32 × Int32 × Int32 × Int32 × Int32 × Int32 × (Nat → Int32) × Nat × (Nat → Int32)
theorem xg47 {n2 : Nat} {f2 : Nat → Int32} {x21 : Int32} {i : Nat} {K : Int32 → Int32 → Int32 → Int32 → (Nat → Int32) → Nat → (Nat → Int32) → R14} (hn : n2 ≤ 8) (h9 : 0 ≤ i9.toInt ∧ i9.toInt ≤ 20) (hL : LAW i9 a18 a19 a20 a21 a22 a23 a24 a25 b15 b16 b17 b18 b19 b20 b21 b22) (hC : RCC i9 a21 a26 rtn rtc b23 b24 b25 b26) (hi : x21.toInt = (i : Int)) (hi9 : (i : Int) < i9.toInt) (hF : ifB v day i6 b2 b8 b15 b16 b17 i = true) :
    ∀ (m f j : Nat) (x48 i25 i26 i27 : Int32) (a37 : Nat → Int32) (ptn : Nat) (ptc : Nat → Int32) (L : List Nat), x48.toInt = (j : Int) → (b18 i).toInt = (j : Int) + m → m < f → HL a37 i27 L → L.length + m ≤ 320 →
    ∃ (j25 j26 j27 : Int32) (c37 : Nat → Int32) (qtn : Nat) (qtc : Nat → Int32), f_x1_gatherHeld_j47 n2 f2 i9 a21 a22 a23 a24 a26 rtn rtc v day (F_m12_companyOf v i6 b2 b8) (F_m12_tokensOf v day i6 i9 b2 b4 b8 b15 b16 b17 b18 b19 b20 b21) (b2 v.toNatClampNeg) (b3 v.toNatClampNeg) x21 K f x48 i25 i26 i27 a37 ptn ptc = K (x21 + Int32.ofInt 1) j25 j26 j27 c37 qtn qtc ∧ HL c37 j27 (L ++ WF (gB v day i6 i9 b2 b3 b4 b8 b15 b16 b17 b18 b19 b20 b21 b23 b24 b25 b26 n2 f2) m (16 * i + j)) := by
  have o1 := co1
  have c119 : (119 : Int32).toInt = 119 := by decide
  obtain ⟨_, _, _, l4, l5, _⟩ := hL i hi9
  have l4' : (a21 i).toInt = (b18 i).toInt := by rw [l4]
  have ecl : F_x2_clausesOf x21 i9 a21 = a21 i := by rw [E_x2_clausesOf, if_neg (by omega), if_neg (by omega), nc hi]
  intro m
  induction m with
  | zero =>
    intro f j x48 i25 i26 i27 a37 ptn ptc L hj hm hf hH _
    obtain ⟨f, rfl⟩ : ∃ w, f = w + 1 := ⟨f - 1, by omega⟩
    rw [S_x1_gatherHeld_j47, ecl, if_pos (by omega)]
    exact ⟨i25, i26, i27, a37, ptn, ptc, rfl, by show HL a37 i27 (L ++ []); rw [List.append_nil]; exact hH⟩
  | succ m ih =>
    intro f j x48 i25 i26 i27 a37 ptn ptc L hj hm hf hH hl
    obtain ⟨f, rfl⟩ : ∃ w, f = w + 1 := ⟨f - 1, by omega⟩
    have hx1 := toInt_add hj co1 (by omega) (by omega)
    have hct := cl_t hi hj (by omega) (by omega)
    have hv1 : vld b18 (16 * i + j) = true := decide_eq_true (by rw [show (16 * i + j) / 16 = i by omega]; omega)
    have hR := CLR_at (a18 := a18) (a19 := a19) (a20 := a20) h9 hL (c := 16 * i + j) (by omega) hv1
    have eF : ifB v day i6 b2 b8 b15 b16 b17 ((16 * i + j) / 16) = true := by rw [show (16 * i + j) / 16 = i by omega]; exact hF
    have eof : F_x2_isOf (F_x2_clauseOf x21 x48) 119 a22 = if (b19 (16 * i + j)).toInt = 119 then 1 else 0 := by
      rw [E_x2_isOf, x_num hct (by omega), if_neg n10, nc hct, hR.1, c119]
      by_cases w : (b19 (16 * i + j)).toInt = 119
      · first
        | rw [if_pos w, if_pos w]
        | rw [if_neg (fun z => z w), if_pos w]
      · first
        | rw [if_neg w, if_neg w]
        | rw [if_pos w, if_neg w]
    rw [S_x1_gatherHeld_j47, ecl, if_neg (by omega), eof]
    by_cases k : (b19 (16 * i + j)).toInt = 119
    · rw [if_pos k, if_neg n10]
      have esp : F_x2_speaksOfAny (F_x2_clauseOf x21 x48) n2 f2 a23 a24 = if spB b19 b20 b21 f2 n2 0 (16 * i + j) = true then 1 else 0 := any_loop hct (by omega) hR k (by omega) n2 _ 0 0 c0 (by omega) (by omega)
      rw [esp]
      by_cases s : spB b19 b20 b21 f2 n2 0 (16 * i + j) = true
      · rw [if_pos s, if_neg n10]
        have ev := verdict_of (v := v) (d := day) (i6 := i6) (b2 := b2) (b3 := b3) (b4 := b4) (b8 := b8) (i := i) (i25 := i25) (i26 := i26) (ptn := ptn) (ptc := ptc) (b28 := z0) (b29 := z0) h9 hL hC hct hi9 (by omega) (by omega)
        rw [ev, oN hct]
        by_cases wo : (F_m12_worth (Int32.ofNat (16 * i + j)) v day i6 i9 b2 b3 b4 b8 b15 b16 b17 b18 b19 b20 b21 b23 b24 b25 b26 z0 z0).1.toInt = 1
        · have hg : gB v day i6 i9 b2 b3 b4 b8 b15 b16 b17 b18 b19 b20 b21 b23 b24 b25 b26 n2 f2 (16 * i + j) = true := by
            unfold gB hwB
            rw [hv1, eF, decide_eq_true k, s, show woB v day i6 i9 b2 b3 b4 b8 b15 b16 b17 b18 b19 b20 b21 b23 b24 b25 b26 (16 * i + j) = true from decide_eq_true wo]; rfl
          rw [if_neg (fun z => z wo), if_neg (show ¬ i27.toInt ≥ 320 by have := hH.1; omega), WF_y hg]
          have hH2 := HL_add hH (by omega) hct
          rw [oN hct] at hH2
          have e : (L ++ [16 * i + j]).length = L.length + 1 := by rw [List.length_append]; rfl
          obtain ⟨j25, j26, j27, c37, qtn, qtc, r1, r2⟩ := ih f (j + 1) (x48 + Int32.ofInt 1) _ _ _ _ _ _ (L ++ [16 * i + j]) (by omega) (by omega) (by omega) hH2 (by omega)
          refine ⟨j25, j26, j27, c37, qtn, qtc, r1, ?_⟩
          rw [List.append_assoc] at r2
          exact r2
        · have hg : ¬ gB v day i6 i9 b2 b3 b4 b8 b15 b16 b17 b18 b19 b20 b21 b23 b24 b25 b26 n2 f2 (16 * i + j) = true := by
            unfold gB hwB
            rw [hv1, eF, decide_eq_true k, s, show woB v day i6 i9 b2 b3 b4 b8 b15 b16 b17 b18 b19 b20 b21 b23 b24 b25 b26 (16 * i + j) = false from decide_eq_false wo]; decide
          rw [if_pos wo, WF_n hg]
          exact ih f (j + 1) (x48 + Int32.ofInt 1) _ _ _ _ _ _ L (by omega) (by omega) (by omega) hH (by omega)
      · have hg : ¬ gB v day i6 i9 b2 b3 b4 b8 b15 b16 b17 b18 b19 b20 b21 b23 b24 b25 b26 n2 f2 (16 * i + j) = true := by
          unfold gB
          intro z
          cases h1 : spB b19 b20 b21 f2 n2 0 (16 * i + j) with
          | true => exact s h1
          | false => rw [h1] at z; cases h2 : hwB 119 v day i6 i9 b2 b3 b4 b8 b15 b16 b17 b18 b19 b20 b21 b23 b24 b25 b26 (16 * i + j) <;> rw [h2] at z <;> cases z
        rw [if_neg s, if_pos y00, WF_n hg]
        exact ih f (j + 1) (x48 + Int32.ofInt 1) _ _ _ _ _ _ L (by omega) (by omega) (by omega) hH (by omega)
    · have hg : ¬ gB v day i6 i9 b2 b3 b4 b8 b15 b16 b17 b18 b19 b20 b21 b23 b24 b25 b26 n2 f2 (16 * i + j) = true := by
        unfold gB hwB
        rw [decide_eq_false k]
        intro z
        cases h1 : (vld b18 (16 * i + j) && ifB v day i6 b2 b8 b15 b16 b17 ((16 * i + j) / 16)) <;> rw [h1] at z <;> cases z
      rw [if_neg k, if_pos y00, WF_n hg]
      exact ih f (j + 1) (x48 + Int32.ofInt 1) _ _ _ _ _ _ L (by omega) (by omega) (by omega) hH (by omega)
theorem gB_not {n2 : Nat} {f2 : Nat → Int32} (h : vld b18 c = false ∨ ifB v day i6 b2 b8 b15 b16 b17 (c / 16) = false) : gB v day i6 i9 b2 b3 b4 b8 b15 b16 b17 b18 b19 b20 b21 b23 b24 b25 b26 n2 f2 c = false := by
  unfold gB hwB
  rcases h with h | h
  · rw [h]; rfl
  · rw [h]; cases vld b18 c <;> rfl
theorem xg20 {n2 : Nat} {f2 : Nat → Int32} {z20 z21 : Int32} (hn : n2 ≤ 8) (h9 : 0 ≤ i9.toInt ∧ i9.toInt ≤ 20) (hL : LAW i9 a18 a19 a20 a21 a22 a23 a24 a25 b15 b16 b17 b18 b19 b20 b21 b22) (hC : RCC i9 a21 a26 rtn rtc b23 b24 b25 b26) (hF : FRC v day i6 i9 b2 b8 b15 b16 b17 z20) :
    ∀ (m f i : Nat) (x21 i25 i26 i27 : Int32) (a37 : Nat → Int32) (ptn : Nat) (ptc : Nat → Int32) (L : List Nat), x21.toInt = (i : Int) → i9.toInt = (i : Int) + m → m < f → HL a37 i27 L → L.length + 16 * m ≤ 320 →
    ∃ (j25 j26 j27 : Int32) (c37 : Nat → Int32) (qtn : Nat) (qtc : Nat → Int32), f_x1_gatherHeld_j20 n2 f2 i9 a21 a22 a23 a24 a26 rtn rtc v day (F_m12_companyOf v i6 b2 b8) z20 z21 (F_m12_tokensOf v day i6 i9 b2 b4 b8 b15 b16 b17 b18 b19 b20 b21) (b2 v.toNatClampNeg) (b3 v.toNatClampNeg) f x21 i25 i26 i27 a37 ptn ptc = (v, day, F_m12_companyOf v i6 b2 b8, z20, z21, F_m12_tokensOf v day i6 i9 b2 b4 b8 b15 b16 b17 b18 b19 b20 b21, b2 v.toNatClampNeg, b3 v.toNatClampNeg, j25, j26, j27, c37, qtn, qtc) ∧ HL c37 j27 (L ++ WF (gB v day i6 i9 b2 b3 b4 b8 b15 b16 b17 b18 b19 b20 b21 b23 b24 b25 b26 n2 f2) (16 * m) (16 * i)) := by
  have o1 := co1
  intro m
  induction m with
  | zero =>
    intro f i x21 i25 i26 i27 a37 ptn ptc L hx hm hf hH _
    obtain ⟨f, rfl⟩ : ∃ w, f = w + 1 := ⟨f - 1, by omega⟩
    rw [S_x1_gatherHeld_j20, if_pos (show x21.toInt ≥ (F_x2_size i9).toInt by show x21.toInt ≥ i9.toInt; omega)]
    exact ⟨i25, i26, i27, a37, ptn, ptc, rfl, by show HL a37 i27 (L ++ []); rw [List.append_nil]; exact hH⟩
  | succ m ih =>
    intro f i x21 i25 i26 i27 a37 ptn ptc L hx hm hf hH hl
    obtain ⟨f, rfl⟩ : ∃ w, f = w + 1 := ⟨f - 1, by omega⟩
    have hx1 := toInt_add hx co1 (by omega) (by omega)
    obtain ⟨_, _, _, l4, l5, _⟩ := hL i (by omega)
    obtain ⟨k, hk⟩ : ∃ k : Nat, (b18 i).toInt = (k : Int) := ⟨(b18 i).toInt.toNat, by omega⟩
    have e16 : WF (gB v day i6 i9 b2 b3 b4 b8 b15 b16 b17 b18 b19 b20 b21 b23 b24 b25 b26 n2 f2) (16 * (m + 1)) (16 * i) = WF (gB v day i6 i9 b2 b3 b4 b8 b15 b16 b17 b18 b19 b20 b21 b23 b24 b25 b26 n2 f2) 16 (16 * i) ++ WF (gB v day i6 i9 b2 b3 b4 b8 b15 b16 b17 b18 b19 b20 b21 b23 b24 b25 b26 n2 f2) (16 * m) (16 * (i + 1)) := by
      rw [show 16 * (m + 1) = 16 + 16 * m by omega, WF_app, show 16 * i + 16 = 16 * (i + 1) by omega]
    rw [S_x1_gatherHeld_j20, if_neg (show ¬ x21.toInt ≥ (F_x2_size i9).toInt by show ¬ x21.toInt ≥ i9.toInt; omega), e16]
    have einf : (F_x6_isInForce x21 z20).toInt ≠ 0 ↔ ifB v day i6 b2 b8 b15 b16 b17 i = true := by
      have e1 : ifB v day i6 b2 b8 b15 b16 b17 i = true ↔ (F_m12_isInForce x21 v day i6 b2 b8 b15 b16 b17).toInt ≠ 0 := by
        unfold ifB; rw [← oN hx]; exact decide_eq_true_iff
      rw [e1]
      exact frc_at hF h9.2 (by omega) (by omega)
    by_cases w : ifB v day i6 b2 b8 b15 b16 b17 i = true
    · rw [if_pos (einf.mpr w)]
      obtain ⟨j25, j26, j27, c37, qtn, qtc, r1, r2⟩ := xg47 (b3 := b3) (b4 := b4) (f2 := f2) (K := f_x1_gatherHeld_j20 n2 f2 i9 a21 a22 a23 a24 a26 rtn rtc v day (F_m12_companyOf v i6 b2 b8) z20 z21 (F_m12_tokensOf v day i6 i9 b2 b4 b8 b15 b16 b17 b18 b19 b20 b21) (b2 v.toNatClampNeg) (b3 v.toNatClampNeg) f) hn h9 hL hC hx (by omega) w k 17 0 0 i25 i26 i27 a37 ptn ptc L c0 (by omega) (by omega) hH (by omega)
      have eb : WF (gB v day i6 i9 b2 b3 b4 b8 b15 b16 b17 b18 b19 b20 b21 b23 b24 b25 b26 n2 f2) 16 (16 * i) = WF (gB v day i6 i9 b2 b3 b4 b8 b15 b16 b17 b18 b19 b20 b21 b23 b24 b25 b26 n2 f2) k (16 * i + 0) := by
        have e0 : ∀ N : Nat, N = k + (16 - k) → WF (gB v day i6 i9 b2 b3 b4 b8 b15 b16 b17 b18 b19 b20 b21 b23 b24 b25 b26 n2 f2) N (16 * i) = WF (gB v day i6 i9 b2 b3 b4 b8 b15 b16 b17 b18 b19 b20 b21 b23 b24 b25 b26 n2 f2) k (16 * i + 0) := by
          intro N hN
          rw [hN, WF_app, WF_none (hw := gB v day i6 i9 b2 b3 b4 b8 b15 b16 b17 b18 b19 b20 b21 b23 b24 b25 b26 n2 f2) (16 - k) (16 * i + k) (fun q h1 h2 => gB_not (Or.inl (decide_eq_false (by rw [show q / 16 = i by omega]; omega)))), List.append_nil]
          rfl
        exact e0 16 (by omega)
      have hlen := WF_len (hw := gB v day i6 i9 b2 b3 b4 b8 b15 b16 b17 b18 b19 b20 b21 b23 b24 b25 b26 n2 f2) k (16 * i + 0)
      have el : (L ++ WF (gB v day i6 i9 b2 b3 b4 b8 b15 b16 b17 b18 b19 b20 b21 b23 b24 b25 b26 n2 f2) k (16 * i + 0)).length = L.length + (WF (gB v day i6 i9 b2 b3 b4 b8 b15 b16 b17 b18 b19 b20 b21 b23 b24 b25 b26 n2 f2) k (16 * i + 0)).length := List.length_append
      obtain ⟨p25, p26, p27, d37, stn, stc, s1, s2⟩ := ih f (i + 1) (x21 + Int32.ofInt 1) j25 j26 j27 c37 qtn qtc _ (by omega) (by omega) (by omega) r2 (by omega)
      refine ⟨p25, p26, p27, d37, stn, stc, r1.trans s1, ?_⟩
      rw [eb, ← List.append_assoc]; exact s2
    · rw [if_neg (fun z => w (einf.mp z))]
      have w' : ifB v day i6 b2 b8 b15 b16 b17 i = false := by cases h : ifB v day i6 b2 b8 b15 b16 b17 i with
        | true => exact absurd h w
        | false => rfl
      have eb : WF (gB v day i6 i9 b2 b3 b4 b8 b15 b16 b17 b18 b19 b20 b21 b23 b24 b25 b26 n2 f2) 16 (16 * i) = [] := WF_none 16 (16 * i) (fun q h1 h2 => gB_not (Or.inr (by rw [show q / 16 = i by omega]; exact w')))
      rw [eb, List.nil_append]
      exact ih f (i + 1) (x21 + Int32.ofInt 1) i25 i26 i27 a37 ptn ptc L (by omega) (by omega) (by omega) hH (by omega)
end XQ
