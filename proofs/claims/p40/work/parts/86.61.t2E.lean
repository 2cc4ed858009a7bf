/-! marks: the s CLAUSES that hold for a VERSE -/
def MKS (l41 : Nat → Int64) (V N : Nat) (hw : Nat → Bool) : Prop := ∀ k, k < 320 → (bitL (l41 (5 * V + k / 64)) (k % 64) = true ↔ k < N ∧ hw k = true)
def FRL (V : Nat) (l l' : Nat → Int64) : Prop := ∀ q, q < 5 * V ∨ 5 * V + 5 ≤ q → l' q = l q
def ANB (x : Int32) (N : Nat) (hw : Nat → Bool) : Prop := (x = 1 ∧ ∃ k, k < N ∧ hw k = true) ∨ (x = 0 ∧ ∀ k, k < N → ¬ hw k = true)
theorem MKS_skip {l : Nat → Int64} {V N N' : Nat} {hw : Nat → Bool} (h : MKS l V N hw) (hN : N ≤ N') (hh : ∀ k, N ≤ k → k < N' → ¬ hw k = true) : MKS l V N' hw := by
  intro k hk
  rw [h k hk]
  constructor
  · intro ⟨h1, h2⟩; exact ⟨by omega, h2⟩
  · intro ⟨h1, h2⟩
    by_cases w : k < N
    · exact ⟨w, h2⟩
    · exact absurd h2 (hh k (by omega) h1)
theorem ANB_skip {x : Int32} {N N' : Nat} {hw : Nat → Bool} (h : ANB x N hw) (hN : N ≤ N') (hh : ∀ k, N ≤ k → k < N' → ¬ hw k = true) : ANB x N' hw := by
  rcases h with ⟨h1, k, h2, h3⟩ | ⟨h1, h2⟩
  · exact Or.inl ⟨h1, k, by omega, h3⟩
  · refine Or.inr ⟨h1, fun k hk => ?_⟩
    by_cases w : k < N
    · exact h2 k w
    · exact hh k (by omega) hk
theorem MKS_set {l : Nat → Int64} {V N : Nat} {y : Int32} {hw : Nat → Bool} (h : MKS l V N hw) (hN : N < 320) (hw1 : hw N = true) (hy : y.toInt = ((N % 64 : Nat) : Int)) : MKS (vp_updL l (5 * V + N / 64) (l (5 * V + N / 64) ||| ((1 : Int64) <<< (y.toInt64 &&& 63)))) V (N + 1) hw := by
  intro k hk
  have hy2 : y.toInt.toNat = N % 64 := by omega
  unfold vp_updL
  by_cases w : 5 * V + k / 64 = 5 * V + N / 64
  · rw [if_pos w, bitL_or, bitL_sh (by omega) (by omega), hy2]
    have hk' := h k hk
    rw [w] at hk'
    by_cases w2 : k = N
    · subst w2
      rw [decide_eq_true (rfl : k % 64 = k % 64), Bool.or_true]
      exact ⟨fun _ => ⟨by omega, hw1⟩, fun _ => rfl⟩
    · rw [decide_eq_false (show ¬ N % 64 = k % 64 by omega), Bool.or_false, hk']
      exact ⟨fun ⟨a, b⟩ => ⟨by omega, b⟩, fun ⟨a, b⟩ => ⟨by omega, b⟩⟩
  · rw [if_neg w, h k hk]
    exact ⟨fun ⟨a, b⟩ => ⟨by omega, b⟩, fun ⟨a, b⟩ => ⟨by omega, b⟩⟩
theorem FRL_set {l l' : Nat → Int64} {V d : Nat} {x : Int64} (h : FRL V l l') (hd : d < 5) : FRL V l (vp_updL l' (5 * V + d) x) := by
  intro q hq
  unfold vp_updL
  rw [if_neg (by omega)]
  exact h q hq
section MRK
variable {v day i3 i6 i9 cu : Int32} {a7 a8 a13 a18 a19 a20 a21 a22 a23 a24 a25 a26 b2 b3 b4 b8 b15 b16 b17 b18 b19 b20 b21 b22 b23 b24 b25 b26 b5 : Nat → Int32} {r9n rtn : Nat → Nat} {r9c rtc : Nat → Nat → Int32} {c : Nat}
abbrev R14m := Int32 × Int32 × Int32 × Int32 × Int32 × Int32 × Int32 × Int32 × Int32 × Int32 × Int32 × (Nat → Int64) × Nat × (Nat → Int32)
theorem d64 {cu : Int32} {c : Nat} (h : cu.toInt = (c : Int)) (hc : c < 320) : (cu / (64 : Int32)).toInt = ((c / 64 : Nat) : Int) ∧ (cu - cu / (64 : Int32) * (64 : Int32)).toInt = ((c % 64 : Nat) : Int) := by
  have c64 : (64 : Int32).toInt = 64 := by decide
  have e1 : (cu / (64 : Int32)).toInt = ((c / 64 : Nat) : Int) := by
    have e := Int32.toInt_div_of_ne_right cu (64 : Int32) (by decide)
    rw [e, h, c64]; rfl
  have e2 : (cu / (64 : Int32) * (64 : Int32)).toInt = ((c / 64 : Nat) : Int) * 64 := toInt_mul e1 c64 rfl (by omega) (by omega)
  have e3 := toInt_sub h e2 (by omega) (by omega)
  exact ⟨e1, by omega⟩
theorem v5 {u x : Int32} {V d : Nat} (hu : u.toInt = (V : Int)) (hV : V < 60) (hx : x.toInt = (d : Int)) (hd : d < 6) : (u * (5 : Int32) + x).toNatClampNeg = 5 * V + d := by
  have e1 := toInt_mul hu (show (5 : Int32).toInt = 5 by decide) rfl (by omega) (by omega)
  have e2 := toInt_add e1 hx (by omega) (by omega)
  exact nc (by omega)
theorem xm54 {V i : Nat} {x29 : Int32} {K : Int32 → Int32 → Int32 → Int32 → (Nat → Int64) → Nat → (Nat → Int32) → R14m} (h9 : 0 ≤ i9.toInt ∧ i9.toInt ≤ 20) (hL : LAW i9 a18 a19 a20 a21 a22 a23 a24 a25 b15 b16 b17 b18 b19 b20 b21 b22) (hC : RCC i9 a21 a26 rtn rtc b23 b24 b25 b26) (hV : v.toInt = (V : Int)) (hV2 : V < 60) (hi : x29.toInt = (i : Int)) (hi9 : (i : Int) < i9.toInt) (hF : ifB v day i6 b2 b8 b15 b16 b17 i = true) :
    ∀ (m f j : Nat) (x55 x57 i25 i26 : Int32) (l0 l41 : Nat → Int64) (ptn : Nat) (ptc : Nat → Int32), x57.toInt = (j : Int) → (b18 i).toInt = (j : Int) + m → m < f → MKS l41 V (16 * i + j) (hwB 115 v day i6 i9 b2 b3 b4 b8 b15 b16 b17 b18 b19 b20 b21 b23 b24 b25 b26) → FRL V l0 l41 → ANB x55 (16 * i + j) (hwB 115 v day i6 i9 b2 b3 b4 b8 b15 b16 b17 b18 b19 b20 b21 b23 b24 b25 b26) →
    ∃ (y j25 j26 : Int32) (l' : Nat → Int64) (qtn : Nat) (qtc : Nat → Int32), f_x1_markAlike_j54 v i9 a21 a22 a26 rtn rtc v day (F_m12_companyOf v i6 b2 b8) (F_m12_tokensOf v day i6 i9 b2 b4 b8 b15 b16 b17 b18 b19 b20 b21) (b2 v.toNatClampNeg) (b3 v.toNatClampNeg) x29 K f x55 x57 i25 i26 l41 ptn ptc = K y (x29 + Int32.ofInt 1) j25 j26 l' qtn qtc ∧ MKS l' V (16 * i + j + m) (hwB 115 v day i6 i9 b2 b3 b4 b8 b15 b16 b17 b18 b19 b20 b21 b23 b24 b25 b26) ∧ FRL V l0 l' ∧ ANB y (16 * i + j + m) (hwB 115 v day i6 i9 b2 b3 b4 b8 b15 b16 b17 b18 b19 b20 b21 b23 b24 b25 b26) := by
  have o1 := co1
  have c115 : (115 : Int32).toInt = 115 := by decide
  obtain ⟨_, _, _, l4, l5, _⟩ := hL i hi9
  have l4' : (a21 i).toInt = (b18 i).toInt := by rw [l4]
  have ecl : F_x2_clausesOf x29 i9 a21 = a21 i := by rw [E_x2_clausesOf, if_neg (by omega), if_neg (by omega), nc hi]
  intro m
  induction m with
  | zero =>
    intro f j x55 x57 i25 i26 l0 l41 ptn ptc hj hm hf hM hR hA
    obtain ⟨f, rfl⟩ : ∃ w, f = w + 1 := ⟨f - 1, by omega⟩
    rw [S_x1_markAlike_j54, ecl, if_pos (by omega)]
    exact ⟨x55, i25, i26, l41, ptn, ptc, rfl, hM, hR, hA⟩
  | succ m ih =>
    intro f j x55 x57 i25 i26 l0 l41 ptn ptc hj hm hf hM hR hA
    obtain ⟨f, rfl⟩ : ∃ w, f = w + 1 := ⟨f - 1, by omega⟩
    have hx1 := toInt_add hj co1 (by omega) (by omega)
    have hct := cl_t hi hj (by omega) (by omega)
    have hv1 : vld b18 (16 * i + j) = true := decide_eq_true (by rw [show (16 * i + j) / 16 = i by omega]; omega)
    have hC1 := CLR_at (a18 := a18) (a19 := a19) (a20 := a20) h9 hL (c := 16 * i + j) (by omega) hv1
    have eF : ifB v day i6 b2 b8 b15 b16 b17 ((16 * i + j) / 16) = true := by rw [show (16 * i + j) / 16 = i by omega]; exact hF
    have eof : F_x2_isOf (F_x2_clauseOf x29 x57) 115 a22 = if (b19 (16 * i + j)).toInt = 115 then 1 else 0 := by
      rw [E_x2_isOf, x_num hct (by omega), if_neg n10, nc hct, hC1.1, c115]
      by_cases w : (b19 (16 * i + j)).toInt = 115
      · first
        | rw [if_pos w, if_pos w]
        | rw [if_neg (fun z => z w), if_pos w]
      · first
        | rw [if_neg w, if_neg w]
        | rw [if_pos w, if_neg w]
    have no : ∀ (y25 y26 : Int32) (qn : Nat) (qc : Nat → Int32), ¬ (hwB 115 v day i6 i9 b2 b3 b4 b8 b15 b16 b17 b18 b19 b20 b21 b23 b24 b25 b26) (16 * i + j) = true → ∃ (y j25 j26 : Int32) (l' : Nat → Int64) (qtn : Nat) (qtc : Nat → Int32), f_x1_markAlike_j54 v i9 a21 a22 a26 rtn rtc v day (F_m12_companyOf v i6 b2 b8) (F_m12_tokensOf v day i6 i9 b2 b4 b8 b15 b16 b17 b18 b19 b20 b21) (b2 v.toNatClampNeg) (b3 v.toNatClampNeg) x29 K f x55 (x57 + Int32.ofInt 1) y25 y26 l41 qn qc = K y (x29 + Int32.ofInt 1) j25 j26 l' qtn qtc ∧ MKS l' V (16 * i + j + (m + 1)) (hwB 115 v day i6 i9 b2 b3 b4 b8 b15 b16 b17 b18 b19 b20 b21 b23 b24 b25 b26) ∧ FRL V l0 l' ∧ ANB y (16 * i + j + (m + 1)) (hwB 115 v day i6 i9 b2 b3 b4 b8 b15 b16 b17 b18 b19 b20 b21 b23 b24 b25 b26) := by
      intro y25 y26 qn qc hn
      have hs : ∀ k, 16 * i + j ≤ k → k < 16 * i + (j + 1) → ¬ (hwB 115 v day i6 i9 b2 b3 b4 b8 b15 b16 b17 b18 b19 b20 b21 b23 b24 b25 b26) k = true := fun k k1 k2 => by rw [show k = 16 * i + j by omega]; exact hn
      have := ih f (j + 1) x55 (x57 + Int32.ofInt 1) y25 y26 l0 l41 qn qc (by omega) (by omega) (by omega) (MKS_skip hM (by omega) hs) hR (ANB_skip hA (by omega) hs)
      rw [show 16 * i + (j + 1) + m = 16 * i + j + (m + 1) by omega] at this
      exact this
    rw [S_x1_markAlike_j54, ecl, if_neg (by omega), eof]
    by_cases k : (b19 (16 * i + j)).toInt = 115
    · rw [if_pos k, if_neg n10]
      have ev := verdict_of (v := v) (d := day) (i6 := i6) (b2 := b2) (b3 := b3) (b4 := b4) (b8 := b8) (i := i) (i25 := i25) (i26 := i26) (ptn := ptn) (ptc := ptc) (b28 := z0) (b29 := z0) h9 hL hC hct hi9 (by omega) (by omega)
      rw [ev, oN hct]
      by_cases wo : (F_m12_worth (Int32.ofNat (16 * i + j)) v day i6 i9 b2 b3 b4 b8 b15 b16 b17 b18 b19 b20 b21 b23 b24 b25 b26 z0 z0).1.toInt = 1
      · have hg : (hwB 115 v day i6 i9 b2 b3 b4 b8 b15 b16 b17 b18 b19 b20 b21 b23 b24 b25 b26) (16 * i + j) = true := by
          unfold hwB
          rw [hv1, eF, decide_eq_true k, show woB v day i6 i9 b2 b3 b4 b8 b15 b16 b17 b18 b19 b20 b21 b23 b24 b25 b26 (16 * i + j) = true from decide_eq_true wo]; rfl
        rw [if_neg (fun z => z wo), ← oN hct]
        obtain ⟨d1, d2⟩ := d64 hct (by omega)
        rw [v5 hV hV2 d1 (by omega)]
        have M2 := MKS_set hM (by omega) hg d2
        have R2 := FRL_set (x := l41 (5 * V + (16 * i + j) / 64) ||| ((1 : Int64) <<< ((F_x2_clauseOf x29 x57 - F_x2_clauseOf x29 x57 / (64 : Int32) * (64 : Int32)).toInt64 &&& 63))) hR (show (16 * i + j) / 64 < 5 by omega)
        have A2 : ANB 1 (16 * i + (j + 1)) (hwB 115 v day i6 i9 b2 b3 b4 b8 b15 b16 b17 b18 b19 b20 b21 b23 b24 b25 b26) := Or.inl ⟨rfl, 16 * i + j, by omega, hg⟩
        have r := ih f (j + 1) 1 (x57 + Int32.ofInt 1) (F_x6_verdict (F_x2_clauseOf x29 x57) i9 v day (F_m12_companyOf v i6 b2 b8) (F_m12_tokensOf v day i6 i9 b2 b4 b8 b15 b16 b17 b18 b19 b20 b21) (b2 v.toNatClampNeg) (b3 v.toNatClampNeg) i25 i26 a26 rtn rtc ptn ptc).2.1 (F_x6_verdict (F_x2_clauseOf x29 x57) i9 v day (F_m12_companyOf v i6 b2 b8) (F_m12_tokensOf v day i6 i9 b2 b4 b8 b15 b16 b17 b18 b19 b20 b21) (b2 v.toNatClampNeg) (b3 v.toNatClampNeg) i25 i26 a26 rtn rtc ptn ptc).2.2.1 l0 _ (F_x6_verdict (F_x2_clauseOf x29 x57) i9 v day (F_m12_companyOf v i6 b2 b8) (F_m12_tokensOf v day i6 i9 b2 b4 b8 b15 b16 b17 b18 b19 b20 b21) (b2 v.toNatClampNeg) (b3 v.toNatClampNeg) i25 i26 a26 rtn rtc ptn ptc).2.2.2.1 (F_x6_verdict (F_x2_clauseOf x29 x57) i9 v day (F_m12_companyOf v i6 b2 b8) (F_m12_tokensOf v day i6 i9 b2 b4 b8 b15 b16 b17 b18 b19 b20 b21) (b2 v.toNatClampNeg) (b3 v.toNatClampNeg) i25 i26 a26 rtn rtc ptn ptc).2.2.2.2 (by omega) (by omega) (by omega) M2 R2 A2
        rw [show 16 * i + (j + 1) + m = 16 * i + j + (m + 1) by omega] at r
        exact r
      · have hg : ¬ (hwB 115 v day i6 i9 b2 b3 b4 b8 b15 b16 b17 b18 b19 b20 b21 b23 b24 b25 b26) (16 * i + j) = true := by
          unfold hwB
          rw [hv1, eF, decide_eq_true k, show woB v day i6 i9 b2 b3 b4 b8 b15 b16 b17 b18 b19 b20 b21 b23 b24 b25 b26 (16 * i + j) = false from decide_eq_false wo]; decide
        rw [if_pos wo]
        exact no _ _ _ _ hg
    · have hg : ¬ (hwB 115 v day i6 i9 b2 b3 b4 b8 b15 b16 b17 b18 b19 b20 b21 b23 b24 b25 b26) (16 * i + j) = true := by
        unfold hwB
        rw [decide_eq_false k]
        intro z
        cases h1 : (vld b18 (16 * i + j) && ifB v day i6 b2 b8 b15 b16 b17 ((16 * i + j) / 16)) <;> rw [h1] at z <;> cases z
      rw [if_neg k, if_pos y00]
      exact no _ _ _ _ hg
theorem hw_not {k : Int} (h : vld b18 c = false ∨ ifB v day i6 b2 b8 b15 b16 b17 (c / 16) = false) : ¬ hwB k v day i6 i9 b2 b3 b4 b8 b15 b16 b17 b18 b19 b20 b21 b23 b24 b25 b26 c = true := by
  unfold hwB
  rcases h with h | h
  · rw [h]; intro z; cases z
  · rw [h]; intro z; cases h1 : vld b18 c <;> rw [h1] at z <;> cases z
theorem xm26 {V : Nat} {z20 z21 : Int32} (h9 : 0 ≤ i9.toInt ∧ i9.toInt ≤ 20) (hL : LAW i9 a18 a19 a20 a21 a22 a23 a24 a25 b15 b16 b17 b18 b19 b20 b21 b22) (hC : RCC i9 a21 a26 rtn rtc b23 b24 b25 b26) (hF : FRC v day i6 i9 b2 b8 b15 b16 b17 z20) (hV : v.toInt = (V : Int)) (hV2 : V < 60) :
    ∀ (m f i : Nat) (x27 x29 i25 i26 : Int32) (l0 l41 : Nat → Int64) (ptn : Nat) (ptc : Nat → Int32), x29.toInt = (i : Int) → i9.toInt = (i : Int) + m → m < f → MKS l41 V (16 * i) (hwB 115 v day i6 i9 b2 b3 b4 b8 b15 b16 b17 b18 b19 b20 b21 b23 b24 b25 b26) → FRL V l0 l41 → ANB x27 (16 * i) (hwB 115 v day i6 i9 b2 b3 b4 b8 b15 b16 b17 b18 b19 b20 b21 b23 b24 b25 b26) →
    ∃ (y j25 j26 : Int32) (l' : Nat → Int64) (qtn : Nat) (qtc : Nat → Int32), f_x1_markAlike_j26 v i9 a21 a22 a26 rtn rtc v day (F_m12_companyOf v i6 b2 b8) z20 z21 (F_m12_tokensOf v day i6 i9 b2 b4 b8 b15 b16 b17 b18 b19 b20 b21) (b2 v.toNatClampNeg) (b3 v.toNatClampNeg) f x27 x29 i25 i26 l41 ptn ptc = (y, v, day, (F_m12_companyOf v i6 b2 b8), z20, z21, (F_m12_tokensOf v day i6 i9 b2 b4 b8 b15 b16 b17 b18 b19 b20 b21), b2 v.toNatClampNeg, b3 v.toNatClampNeg, j25, j26, l', qtn, qtc) ∧ MKS l' V (16 * i + 16 * m) (hwB 115 v day i6 i9 b2 b3 b4 b8 b15 b16 b17 b18 b19 b20 b21 b23 b24 b25 b26) ∧ FRL V l0 l' ∧ ANB y (16 * i + 16 * m) (hwB 115 v day i6 i9 b2 b3 b4 b8 b15 b16 b17 b18 b19 b20 b21 b23 b24 b25 b26) := by
  have o1 := co1
  intro m
  induction m with
  | zero =>
    intro f i x27 x29 i25 i26 l0 l41 ptn ptc hx hm hf hM hR hA
    obtain ⟨f, rfl⟩ : ∃ w, f = w + 1 := ⟨f - 1, by omega⟩
    rw [S_x1_markAlike_j26, if_pos (show x29.toInt ≥ (F_x2_size i9).toInt by show x29.toInt ≥ i9.toInt; omega)]
    exact ⟨x27, i25, i26, l41, ptn, ptc, rfl, hM, hR, hA⟩
  | succ m ih =>
    intro f i x27 x29 i25 i26 l0 l41 ptn ptc hx hm hf hM hR hA
    obtain ⟨f, rfl⟩ : ∃ w, f = w + 1 := ⟨f - 1, by omega⟩
    have hx1 := toInt_add hx co1 (by omega) (by omega)
    obtain ⟨_, _, _, l4, l5, _⟩ := hL i (by omega)
    obtain ⟨k, hk⟩ : ∃ k : Nat, (b18 i).toInt = (k : Int) := ⟨(b18 i).toInt.toNat, by omega⟩
    rw [S_x1_markAlike_j26, if_neg (show ¬ x29.toInt ≥ (F_x2_size i9).toInt by show ¬ x29.toInt ≥ i9.toInt; omega)]
    have einf : (F_x6_isInForce x29 z20).toInt ≠ 0 ↔ ifB v day i6 b2 b8 b15 b16 b17 i = true := by
      have e1 : ifB v day i6 b2 b8 b15 b16 b17 i = true ↔ (F_m12_isInForce x29 v day i6 b2 b8 b15 b16 b17).toInt ≠ 0 := by
        unfold ifB; rw [← oN hx]; exact decide_eq_true_iff
      rw [e1]
      exact frc_at hF h9.2 (by omega) (by omega)
    by_cases w : ifB v day i6 b2 b8 b15 b16 b17 i = true
    · rw [if_pos (einf.mpr w)]
      obtain ⟨y, j25, j26, l', qtn, qtc, r1, r2, r3, r4⟩ := xm54 (K := f_x1_markAlike_j26 v i9 a21 a22 a26 rtn rtc v day (F_m12_companyOf v i6 b2 b8) z20 z21 (F_m12_tokensOf v day i6 i9 b2 b4 b8 b15 b16 b17 b18 b19 b20 b21) (b2 v.toNatClampNeg) (b3 v.toNatClampNeg) f) h9 hL hC hV hV2 hx (by omega) w k 17 0 x27 0 i25 i26 l0 l41 ptn ptc c0 (by omega) (by omega) hM hR hA
      have hs : ∀ q, 16 * i + 0 + k ≤ q → q < 16 * (i + 1) → ¬ (hwB 115 v day i6 i9 b2 b3 b4 b8 b15 b16 b17 b18 b19 b20 b21 b23 b24 b25 b26) q = true := fun q q1 q2 => hw_not (Or.inl (decide_eq_false (by rw [show q / 16 = i by omega]; omega)))
      obtain ⟨y2, p25, p26, l2, stn, stc, s1, s2, s3, s4⟩ := ih f (i + 1) y (x29 + Int32.ofInt 1) j25 j26 l0 l' qtn qtc (by omega) (by omega) (by omega) (MKS_skip r2 (by omega) hs) r3 (ANB_skip r4 (by omega) hs)
      rw [show 16 * (i + 1) + 16 * m = 16 * i + 16 * (m + 1) by omega] at s2 s4
      exact ⟨y2, p25, p26, l2, stn, stc, r1.trans s1, s2, s3, s4⟩
    · rw [if_neg (fun z => w (einf.mp z))]
      have w' : ifB v day i6 b2 b8 b15 b16 b17 i = false := by cases h : ifB v day i6 b2 b8 b15 b16 b17 i with
        | true => exact absurd h w
        | false => rfl
      have hs : ∀ q, 16 * i ≤ q → q < 16 * (i + 1) → ¬ (hwB 115 v day i6 i9 b2 b3 b4 b8 b15 b16 b17 b18 b19 b20 b21 b23 b24 b25 b26) q = true := fun q q1 q2 => hw_not (Or.inr (by rw [show q / 16 = i by omega]; exact w'))
      obtain ⟨y2, p25, p26, l2, stn, stc, s1, s2, s3, s4⟩ := ih f (i + 1) x27 (x29 + Int32.ofInt 1) i25 i26 l0 l41 ptn ptc (by omega) (by omega) (by omega) (MKS_skip hM (by omega) hs) hR (ANB_skip hA (by omega) hs)
      rw [show 16 * (i + 1) + 16 * m = 16 * i + 16 * (m + 1) by omega] at s2 s4
      exact ⟨y2, p25, p26, l2, stn, stc, s1, s2, s3, s4⟩
/-- the marks are wiped first -/
theorem xm1 {V : Nat} {i25 i26 : Int32} {ptn : Nat} {ptc : Nat → Int32} (hV : v.toInt = (V : Int)) (hV2 : V < 60) : ∀ (m f d : Nat) (x2 : Int32) (l0 l41 : Nat → Int64), x2.toInt = (d : Int) → 5 = d + m → m < f → (∀ q, q < d → l41 (5 * V + q) = 0) → FRL V l0 l41 →
    ∃ l' : Nat → Int64, f_x1_markAlike_j1 v day i3 i6 i9 i25 i26 a7 a8 a13 a18 a19 a20 a21 a22 a23 a25 a26 r9n r9c rtn rtc ptn ptc f x2 l41 = f_x1_markAlike_j1 v day i3 i6 i9 i25 i26 a7 a8 a13 a18 a19 a20 a21 a22 a23 a25 a26 r9n r9c rtn rtc ptn ptc (f - m) 5 l' ∧ (∀ q, q < 5 → l' (5 * V + q) = 0) ∧ FRL V l0 l' := by
  have o1 := co1
  intro m
  induction m with
  | zero =>
    intro f d x2 l0 l41 hx hm hf hz hR
    have ex : x2 = 5 := eq_of_toInt (by rw [hx, show (5 : Int32).toInt = 5 by decide]; omega)
    rw [ex]
    exact ⟨l41, rfl, fun q hq => hz q (by omega), hR⟩
  | succ m ih =>
    intro f d x2 l0 l41 hx hm hf hz hR
    obtain ⟨f, rfl⟩ : ∃ w, f = w + 1 := ⟨f - 1, by omega⟩
    have hx1 := toInt_add hx co1 (by omega) (by omega)
    rw [S_x1_markAlike_j1, if_neg (by omega), v5 hV hV2 hx (by omega)]
    have hz2 : ∀ q, q < d + 1 → vp_updL l41 (5 * V + d) 0 (5 * V + q) = 0 := by
      intro q hq
      unfold vp_updL
      by_cases w : 5 * V + q = 5 * V + d
      · rw [if_pos w]
      · rw [if_neg w]; exact hz q (by omega)
    obtain ⟨l', r1, r2, r3⟩ := ih f (d + 1) (x2 + Int32.ofInt 1) l0 (vp_updL l41 (5 * V + d) 0) (by omega) (by omega) (by omega) hz2 (FRL_set hR (by omega))
    rw [show f + 1 - (m + 1) = f - m by omega]
    exact ⟨l', r1, r2, r3⟩
theorem xm_of {V : Nat} {i25 i26 : Int32} {l41 : Nat → Int64} {ptn : Nat} {ptc : Nat → Int32} (hV : v.toInt = (V : Int)) (hV2 : (V : Int) < i3.toInt) (hv : 0 ≤ i3.toInt ∧ i3.toInt ≤ 60) (h6 : 0 ≤ i6.toInt ∧ i6.toInt ≤ 6) (h9 : 0 ≤ i9.toInt ∧ i9.toInt ≤ 20) (hL : LAW i9 a18 a19 a20 a21 a22 a23 a24 a25 b15 b16 b17 b18 b19 b20 b21 b22) (hC : RCC i9 a21 a26 rtn rtc b23 b24 b25 b26) (hVR : VRS i3 a7 b2) (hM : MES i3 a8 b3) (hP : PPL i6 a13 b8) (hK : KI i9 b18 b19 b20 b21 b22) (hR : RWS r9n r9c b4 b5) :
    ∃ (y j17 j18 j19 j20 j21 j22 j23 j24 j25 j26 : Int32) (l' : Nat → Int64) (qtn : Nat) (qtc : Nat → Int32), F_x1_markAlike v day i3 i6 i9 i25 i26 a7 a8 a13 a18 a19 a20 a21 a22 a23 a25 a26 l41 r9n r9c rtn rtc ptn ptc = (y, j17, j18, j19, j20, j21, j22, j23, j24, j25, j26, l', qtn, qtc) ∧ MKS l' V (16 * i9.toInt.toNat) (hwB 115 v day i6 i9 b2 b3 b4 b8 b15 b16 b17 b18 b19 b20 b21 b23 b24 b25 b26) ∧ FRL V l41 l' ∧ ANB y (16 * i9.toInt.toNat) (hwB 115 v day i6 i9 b2 b3 b4 b8 b15 b16 b17 b18 b19 b20 b21 b23 b24 b25 b26) := by
  obtain ⟨z20, q2, ea⟩ := aim_of (u0 := v) (u1 := day) hV hV2 hv h6 h9 hVR hM hP hL hK hR
  obtain ⟨l1, r1, r2, r3⟩ := xm1 (day := day) (i3 := i3) (i6 := i6) (i9 := i9) (i25 := i25) (i26 := i26) (a7 := a7) (a8 := a8) (a13 := a13) (a18 := a18) (a19 := a19) (a20 := a20) (a21 := a21) (a22 := a22) (a23 := a23) (a25 := a25) (a26 := a26) (r9n := r9n) (r9c := r9c) (rtn := rtn) (rtc := rtc) (ptn := ptn) (ptc := ptc) hV (by omega) 5 6 0 0 l41 l41 c0 (by omega) (by omega) (fun q hq => absurd hq (by omega)) (fun q _ => rfl)
  have hM0 : MKS l1 V (16 * 0) (hwB 115 v day i6 i9 b2 b3 b4 b8 b15 b16 b17 b18 b19 b20 b21 b23 b24 b25 b26) := by
    intro k hk
    rw [r2 (k / 64) (by omega)]
    have e0 : bitL 0 (k % 64) = false := by
      show (0 : Int64).toBitVec.getLsbD (k % 64) = false
      rw [show (0 : Int64).toBitVec = 0#64 from rfl, BitVec.getLsbD_zero]
    rw [e0]
    exact ⟨fun z => (by cases z), fun z => absurd z.1 (by omega)⟩
  obtain ⟨y, j25, j26, l', qtn, qtc, s1, s2, s3, s4⟩ := xm26 (z21 := F_m12_copyOf v day i6 i9 b2 b4 b8 b15 b16 b17 b18 b19 b20 b21) (b2 := b2) (b3 := b3) (b4 := b4) (b8 := b8) h9 hL hC q2 hV (by omega) i9.toInt.toNat 22 0 0 0 i25 i26 l41 l1 ptn ptc c0 (by omega) (by omega) hM0 r3 (Or.inr ⟨rfl, fun k hk => absurd hk (by omega)⟩)
  rw [show 16 * 0 + 16 * i9.toInt.toNat = 16 * i9.toInt.toNat by omega] at s2 s4
  refine ⟨y, v, day, F_m12_companyOf v i6 b2 b8, z20, F_m12_copyOf v day i6 i9 b2 b4 b8 b15 b16 b17 b18 b19 b20 b21, F_m12_tokensOf v day i6 i9 b2 b4 b8 b15 b16 b17 b18 b19 b20 b21, b2 v.toNatClampNeg, b3 v.toNatClampNeg, j25, j26, l', qtn, qtc, ?_, s2, s3, s4⟩
  rw [E_x1_markAlike, r1, S_x1_markAlike_j1 (n_ := 0), if_pos (by decide), ea]
  exact s1
theorem and0 {x y : Int64} : x &&& y = 0 ↔ ∀ b, b < 64 → ¬ (bitL x b = true ∧ bitL y b = true) := by
  have e : ∀ b, (x &&& y).toBitVec.getLsbD b = (bitL x b && bitL y b) := fun b => by rw [Int64.toBitVec_and, BitVec.getLsbD_and]; rfl
  constructor
  · intro h b _ ⟨h1, h2⟩
    have e1 := e b
    rw [h, h1, h2, show (0 : Int64).toBitVec = 0#64 from rfl, BitVec.getLsbD_zero] at e1
    cases e1
  · intro h
    apply Int64.toBitVec_inj.mp
    apply BitVec.eq_of_getLsbD_eq
    intro b hb
    rw [e b, show (0 : Int64).toBitVec = 0#64 from rfl, BitVec.getLsbD_zero]
    have hn := h b hb
    cases h1 : bitL x b with
    | false => rfl
    | true =>
      cases h2 : bitL y b with
      | false => rfl
      | true => exact absurd ⟨h1, h2⟩ hn
/-- whether a s CLAUSE holds for both -/
def bothB (f g : Nat → Bool) : Nat → Nat → Bool
  | 0, _ => false
  | m + 1, c => (f c && g c) || bothB f g m (c + 1)
theorem both_iff {f g : Nat → Bool} : ∀ (m c : Nat), bothB f g m c = true ↔ ∃ k, c ≤ k ∧ k < c + m ∧ f k = true ∧ g k = true := by
  intro m
  induction m with
  | zero =>
    intro c
    exact ⟨fun h => (by cases h), fun ⟨k, h1, h2, _⟩ => absurd h2 (by omega)⟩
  | succ m ih =>
    intro c
    show ((f c && g c) || bothB f g m (c + 1)) = true ↔ _
    rw [Bool.or_eq_true, Bool.and_eq_true, ih (c + 1)]
    constructor
    · rintro (⟨h1, h2⟩ | ⟨k, h1, h2, h3⟩)
      · exact ⟨c, Nat.le_refl _, by omega, h1, h2⟩
      · exact ⟨k, by omega, by omega, h3⟩
    · rintro ⟨k, h1, h2, h3⟩
      by_cases e : k = c
      · rw [e] at h3; exact Or.inl h3
      · exact Or.inr ⟨k, by omega, by omega, h3⟩
theorem sc_loop {u0 u1 : Int32} {V W N : Nat} {f g : Nat → Bool} {l41 : Nat → Int64} (hu : u0.toInt = (V : Int)) (hw : u1.toInt = (W : Int)) (hV : V < 60) (hW : W < 60) (hN : N ≤ 320) (hf : MKS l41 V N f) (hg : MKS l41 W N g) : ∀ (m fu d : Nat) (x : Int32), x.toInt = (d : Int) → 5 = d + m → m < fu → (∀ k, k < 64 * d → k < N → ¬ (f k = true ∧ g k = true)) →
    f_x1_shareClause_j1 u0 u1 l41 fu x = if bothB f g N 0 = true then 1 else 0 := by
  have o1 := co1
  intro m
  induction m with
  | zero =>
    intro fu d x hx hm hf' h
    obtain ⟨fu, rfl⟩ : ∃ w, fu = w + 1 := ⟨fu - 1, by omega⟩
    rw [S_x1_shareClause_j1, if_pos (by omega), if_neg]
    intro z
    obtain ⟨k, _, k2, k3⟩ := (both_iff N 0).mp z
    exact h k (by omega) (by omega) k3
  | succ m ih =>
    intro fu d x hx hm hf' h
    obtain ⟨fu, rfl⟩ : ∃ w, fu = w + 1 := ⟨fu - 1, by omega⟩
    have hx1 := toInt_add hx co1 (by omega) (by omega)
    rw [S_x1_shareClause_j1, if_neg (by omega), v5 hu hV hx (by omega), v5 hw hW hx (by omega)]
    by_cases w : l41 (5 * V + d) &&& l41 (5 * W + d) = 0
    · rw [if_pos ((lg0 _).mpr w)]
      refine ih fu (d + 1) (x + Int32.ofInt 1) (by omega) (by omega) (by omega) (fun k k1 k2 k3 => ?_)
      by_cases e : k < 64 * d
      · exact h k e k2 k3
      · have e1 : k / 64 = d := by omega
        refine (and0.mp w) (k % 64) (by omega) ⟨?_, ?_⟩
        · have := (hf k (by omega)).mpr ⟨k2, k3.1⟩
          rw [e1] at this; exact this
        · have := (hg k (by omega)).mpr ⟨k2, k3.2⟩
          rw [e1] at this; exact this
    · rw [if_neg (fun z => w ((lg0 _).mp z)), if_pos]
      refine Classical.byContradiction (fun hn => w (and0.mpr (fun b hb hh => hn ?_)))
      have e1 : (64 * d + b) / 64 = d := by omega
      have e2 : (64 * d + b) % 64 = b := by omega
      have f1 := (hf (64 * d + b) (by omega)).mp (by rw [e1, e2]; exact hh.1)
      have g1 := (hg (64 * d + b) (by omega)).mp (by rw [e1, e2]; exact hh.2)
      exact (both_iff N 0).mpr ⟨64 * d + b, by omega, by omega, f1.2, g1.2⟩
theorem sc_of {u0 u1 : Int32} {V W N : Nat} {f g : Nat → Bool} {l41 : Nat → Int64} (hu : u0.toInt = (V : Int)) (hw : u1.toInt = (W : Int)) (hV : V < 60) (hW : W < 60) (hN : N ≤ 320) (hf : MKS l41 V N f) (hg : MKS l41 W N g) : F_x1_shareClause u0 u1 l41 = if bothB f g N 0 = true then 1 else 0 := by
  rw [E_x1_shareClause]
  exact sc_loop hu hw hV hW hN hf hg 5 6 0 0 c0 (by omega) (by omega) (fun k hk => absurd hk (by omega))
/-- the reference's look -/
theorem mb_loop {w : Int32} (h9 : 0 ≤ i9.toInt ∧ i9.toInt ≤ 20) (hL : LAW i9 a18 a19 a20 a21 a22 a23 a24 a25 b15 b16 b17 b18 b19 b20 b21 b22) (hC : RCC i9 a21 a26 rtn rtc b23 b24 b25 b26) : ∀ (m f q : Nat) (x2 : Int32) (b28 b29 : Nat → Int32), x2.toInt = (q : Int) → 16 * i9.toInt = (q : Int) + m → m < f →
    ∃ d28 d29 : Nat → Int32, f_m12_mustBeAlike_j1 v w day i6 i9 b2 b3 b4 b8 b15 b16 b17 b18 b19 b20 b21 b23 b24 b25 b26 f x2 b28 b29 = ((if bothB (hwB 115 v day i6 i9 b2 b3 b4 b8 b15 b16 b17 b18 b19 b20 b21 b23 b24 b25 b26) (hwB 115 w day i6 i9 b2 b3 b4 b8 b15 b16 b17 b18 b19 b20 b21 b23 b24 b25 b26) m q = true then 1 else 0), d28, d29) := by
  have e16 : ((16 : Int32) * i9).toInt = 16 * i9.toInt := toInt_mul c16i rfl rfl (by omega) (by omega)
  have o1 := co1
  intro m
  induction m with
  | zero =>
    intro f q x2 b28 b29 hq hm hf
    obtain ⟨f, rfl⟩ : ∃ w, f = w + 1 := ⟨f - 1, by omega⟩
    rw [S_m12_mustBeAlike_j1, if_pos (by omega)]
    exact ⟨b28, b29, rfl⟩
  | succ m ih =>
    intro f q x2 b28 b29 hq hm hf
    obtain ⟨f, rfl⟩ : ∃ w, f = w + 1 := ⟨f - 1, by omega⟩
    have hx1 := toInt_add hq co1 (by omega) (by omega)
    obtain ⟨e1, e2⟩ := dm16 hq (by omega)
    have no : ∀ (c28 c29 : Nat → Int32), (¬ (hwB 115 v day i6 i9 b2 b3 b4 b8 b15 b16 b17 b18 b19 b20 b21 b23 b24 b25 b26) q = true ∨ ¬ (hwB 115 w day i6 i9 b2 b3 b4 b8 b15 b16 b17 b18 b19 b20 b21 b23 b24 b25 b26) q = true) → ∃ d28 d29 : Nat → Int32, f_m12_mustBeAlike_j1 v w day i6 i9 b2 b3 b4 b8 b15 b16 b17 b18 b19 b20 b21 b23 b24 b25 b26 f (x2 + Int32.ofInt 1) c28 c29 = ((if bothB (hwB 115 v day i6 i9 b2 b3 b4 b8 b15 b16 b17 b18 b19 b20 b21 b23 b24 b25 b26) (hwB 115 w day i6 i9 b2 b3 b4 b8 b15 b16 b17 b18 b19 b20 b21 b23 b24 b25 b26) (m + 1) q = true then 1 else 0), d28, d29) := by
      intro c28 c29 hn
      have e : bothB (hwB 115 v day i6 i9 b2 b3 b4 b8 b15 b16 b17 b18 b19 b20 b21 b23 b24 b25 b26) (hwB 115 w day i6 i9 b2 b3 b4 b8 b15 b16 b17 b18 b19 b20 b21 b23 b24 b25 b26) (m + 1) q = bothB (hwB 115 v day i6 i9 b2 b3 b4 b8 b15 b16 b17 b18 b19 b20 b21 b23 b24 b25 b26) (hwB 115 w day i6 i9 b2 b3 b4 b8 b15 b16 b17 b18 b19 b20 b21 b23 b24 b25 b26) m (q + 1) := by
        show (((hwB 115 v day i6 i9 b2 b3 b4 b8 b15 b16 b17 b18 b19 b20 b21 b23 b24 b25 b26) q && (hwB 115 w day i6 i9 b2 b3 b4 b8 b15 b16 b17 b18 b19 b20 b21 b23 b24 b25 b26) q) || bothB (hwB 115 v day i6 i9 b2 b3 b4 b8 b15 b16 b17 b18 b19 b20 b21 b23 b24 b25 b26) (hwB 115 w day i6 i9 b2 b3 b4 b8 b15 b16 b17 b18 b19 b20 b21 b23 b24 b25 b26) m (q + 1)) = _
        rcases hn with hn | hn
        · rw [Bool.eq_false_iff.mpr hn]; rfl
        · rw [Bool.eq_false_iff.mpr hn, Bool.and_false]; rfl
      rw [e]
      exact ih f (q + 1) (x2 + Int32.ofInt 1) c28 c29 (by omega) (by omega) (by omega)
    rw [S_m12_mustBeAlike_j1, if_neg (by omega), nc e1, nc hq]
    by_cases w1 : (x2 - x2 / (16 : Int32) * (16 : Int32)).toInt ≥ (b18 (q / 16)).toInt
    · rw [if_pos w1]
      exact no b28 b29 (Or.inl (hw_not (Or.inl (decide_eq_false (by omega)))))
    · have n1 : vld b18 q = true := decide_eq_true (by omega)
      rw [if_neg w1]
      by_cases w3 : (b19 q).toInt ≠ 115
      · rw [if_pos w3]
        refine no b28 b29 (Or.inl (fun z => ?_))
        unfold hwB at z
        rw [decide_eq_false w3] at z
        cases h1 : (vld b18 q && ifB v day i6 b2 b8 b15 b16 b17 (q / 16)) <;> rw [h1] at z <;> cases z
      · have n3 : decide ((b19 q).toInt = 115) = true := decide_eq_true (by omega)
        rw [if_neg w3, oN e1]
        by_cases w2 : (F_m12_isInForce (Int32.ofNat (q / 16)) v day i6 b2 b8 b15 b16 b17).toInt = 0
        · rw [if_pos w2]
          exact no b28 b29 (Or.inl (hw_not (Or.inr (decide_eq_false (fun z => z w2)))))
        · have n2 : ifB v day i6 b2 b8 b15 b16 b17 (q / 16) = true := decide_eq_true w2
          rw [if_neg w2]
          by_cases w5 : (F_m12_isInForce (Int32.ofNat (q / 16)) w day i6 b2 b8 b15 b16 b17).toInt = 0
          · rw [if_pos w5]
            exact no b28 b29 (Or.inr (hw_not (Or.inr (decide_eq_false (fun z => z w5)))))
          · have n5 : ifB w day i6 b2 b8 b15 b16 b17 (q / 16) = true := decide_eq_true w5
            rw [if_neg w5, worth_of (v := v) (day := day) (i6 := i6) (b2 := b2) (b3 := b3) (b4 := b4) (b8 := b8) h9 hL hC hq (by omega) n1 b28 b29]
            by_cases w4 : (F_m12_worth (Int32.ofNat q) v day i6 i9 b2 b3 b4 b8 b15 b16 b17 b18 b19 b20 b21 b23 b24 b25 b26 z0 z0).1.toInt ≠ 1
            · have n4 : woB v day i6 i9 b2 b3 b4 b8 b15 b16 b17 b18 b19 b20 b21 b23 b24 b25 b26 q = false := decide_eq_false w4
              rw [if_pos w4]
              exact no _ _ (Or.inl (fun z => by unfold hwB at z; rw [n1, n2, n3, n4] at z; cases z))
            · have n4 : woB v day i6 i9 b2 b3 b4 b8 b15 b16 b17 b18 b19 b20 b21 b23 b24 b25 b26 q = true := decide_eq_true (by omega)
              rw [if_neg w4, worth_of (v := w) (day := day) (i6 := i6) (b2 := b2) (b3 := b3) (b4 := b4) (b8 := b8) h9 hL hC hq (by omega) n1 _ _]
              by_cases w6 : (F_m12_worth (Int32.ofNat q) w day i6 i9 b2 b3 b4 b8 b15 b16 b17 b18 b19 b20 b21 b23 b24 b25 b26 z0 z0).1.toInt ≠ 1
              · have n6 : woB w day i6 i9 b2 b3 b4 b8 b15 b16 b17 b18 b19 b20 b21 b23 b24 b25 b26 q = false := decide_eq_false w6
                rw [if_pos w6]
                exact no _ _ (Or.inr (fun z => by unfold hwB at z; rw [n1, n5, n3, n6] at z; cases z))
              · have n6 : woB w day i6 i9 b2 b3 b4 b8 b15 b16 b17 b18 b19 b20 b21 b23 b24 b25 b26 q = true := decide_eq_true (by omega)
                have g1 : (hwB 115 v day i6 i9 b2 b3 b4 b8 b15 b16 b17 b18 b19 b20 b21 b23 b24 b25 b26) q = true := by unfold hwB; rw [n1, n2, n3, n4]; rfl
                have g2 : (hwB 115 w day i6 i9 b2 b3 b4 b8 b15 b16 b17 b18 b19 b20 b21 b23 b24 b25 b26) q = true := by unfold hwB; rw [n1, n5, n3, n6]; rfl
                rw [if_neg w6, if_pos ((both_iff (m + 1) q).mpr ⟨q, Nat.le_refl _, by omega, g1, g2⟩)]
                exact ⟨_, _, rfl⟩
theorem mb_of {w : Int32} (h9 : 0 ≤ i9.toInt ∧ i9.toInt ≤ 20) (hL : LAW i9 a18 a19 a20 a21 a22 a23 a24 a25 b15 b16 b17 b18 b19 b20 b21 b22) (hC : RCC i9 a21 a26 rtn rtc b23 b24 b25 b26) (b28 b29 : Nat → Int32) : ∃ d28 d29 : Nat → Int32, F_m12_mustBeAlike v w day i6 i9 b2 b3 b4 b8 b15 b16 b17 b18 b19 b20 b21 b23 b24 b25 b26 b28 b29 = ((if bothB (hwB 115 v day i6 i9 b2 b3 b4 b8 b15 b16 b17 b18 b19 b20 b21 b23 b24 b25 b26) (hwB 115 w day i6 i9 b2 b3 b4 b8 b15 b16 b17 b18 b19 b20 b21 b23 b24 b25 b26) (16 * i9.toInt.toNat) 0 = true then 1 else 0), d28, d29) := by
  rw [E_m12_mustBeAlike]
  exact mb_loop h9 hL hC (16 * i9.toInt.toNat) 321 0 0 b28 b29 c0 (by omega) (by omega)
end MRK
