section XSQ
variable {v day i3 i6 i9 cu : Int32} {a7 a8 a13 a18 a19 a20 a21 a22 a23 a24 a25 a26 b2 b3 b4 b8 b15 b16 b17 b18 b19 b20 b21 b22 b23 b24 b25 b26 b5 : Nat → Int32} {r9n rtn : Nat → Nat} {r9c rtc : Nat → Nat → Int32} {c : Nat}
/-- the second CLAUSE -/
theorem xs7 {u0 tk wt i27 t : Int32} {p h0 : Nat} {a36 a37 : Nat → Int32} {H : List Nat} (h9 : 0 ≤ i9.toInt ∧ i9.toInt ≤ 20) (hL : LAW i9 a18 a19 a20 a21 a22 a23 a24 a25 b15 b16 b17 b18 b19 b20 b21 b22) (hH : HL a37 i27 H) (hO : HOK i9 b18 b19 H) (hlen : H.length ≤ 320) (hp : H[h0]? = some p) (hu : u0.toInt = (h0 : Int)) (hvp : (F_x2_value (a37 u0.toNatClampNeg) a25).toInt = (b22 p).toInt) :
    ∀ (m f h : Nat) (x8 i29 : Int32), x8.toInt = (h : Int) → H.length = h + m → m < f → 0 ≤ i29.toInt → i29.toInt + m ≤ 2000000 →
    (∃ (x : I3) (s : Int32), skp wt.toInt i29.toInt (secL (mtB b19 b20 b21) b22 tk t p (H.drop h)) = some x ∧ f_x1_seekSecond_j7 u0 tk wt i27 a23 a24 a25 a36 a37 (F_x2_value (a37 u0.toNatClampNeg) a25) f x8 i29 = (1, s, F_x1_tellClause 3 x.2.2 (F_x1_tellClause 1 x.1 a36))) ∨
    (skp wt.toInt i29.toInt (secL (mtB b19 b20 b21) b22 tk t p (H.drop h)) = none ∧ ∃ s : Int32, f_x1_seekSecond_j7 u0 tk wt i27 a23 a24 a25 a36 a37 (F_x2_value (a37 u0.toNatClampNeg) a25) f x8 i29 = (0, s, a36) ∧ s.toInt = i29.toInt + (secL (mtB b19 b20 b21) b22 tk t p (H.drop h)).length) := by
  have o1 := co1
  have e1' := c1
  have hh := hH.1
  have epn : a37 u0.toNatClampNeg = Int32.ofNat p := by rw [nc hu]; exact hH.2 h0 p hp
  intro m
  induction m with
  | zero =>
    intro f h x8 i29 hx hm hf _ _
    obtain ⟨f, rfl⟩ : ∃ w, f = w + 1 := ⟨f - 1, by omega⟩
    have ed : H.drop h = [] := List.drop_eq_nil_of_le (by omega)
    rw [S_x1_seekSecond_j7, if_pos (by omega), ed]
    exact Or.inr ⟨rfl, i29, rfl, by show _ = i29.toInt + ((0 : Nat) : Int); omega⟩
  | succ m ih =>
    intro f h x8 i29 hx hm hf h0' hb
    obtain ⟨f, rfl⟩ : ∃ w, f = w + 1 := ⟨f - 1, by omega⟩
    have hx1 := toInt_add hx co1 (by omega) (by omega)
    obtain ⟨q, q1, q2, q3⟩ := drop_at (H := H) (h := h) (by omega)
    obtain ⟨w1, w2, w3⟩ := hO q q3
    have eq : a37 x8.toNatClampNeg = Int32.ofNat q := by rw [nc hx]; exact hH.2 h q q1
    have hcq : (Int32.ofNat q).toInt = (q : Int) := nI_toInt (by omega)
    have hR := CLR_at (a18 := a18) (a19 := a19) (a20 := a20) h9 hL w1 w2
    have ev : (F_x2_value (Int32.ofNat q) a25).toInt = (b22 q).toInt := by
      rw [E_x2_value, x_num hcq (by omega), if_neg n10, nc hcq]
      exact (hR.2.2.2.2 w3).2.1
    rw [S_x1_seekSecond_j7, if_neg (by omega), eq, speaks_of hcq (by omega) hR w3, q2]
    by_cases k : (b22 q).toInt = (b22 p).toInt
    · rw [if_pos (by omega), secL_n (fun z => z.2 k)]
      exact ih f (h + 1) (x8 + Int32.ofInt 1) i29 (by omega) (by omega) (by omega) h0' (by omega)
    · rw [if_neg (by omega)]
      by_cases k2 : mtB b19 b20 b21 q tk = true
      · rw [if_pos k2, if_pos y10, secL_y ⟨k2, k⟩]
        by_cases k3 : i29.toInt ≠ wt.toInt
        · have e2 := toInt_add (x := i29) rfl c1 (by omega) (by omega)
          have e3 : (i29 + 1).toInt = i29.toInt + 1 := by omega
          rw [if_pos k3]
          have es : skp wt.toInt i29.toInt ((Int32.ofNat p, t, Int32.ofNat q) :: secL (mtB b19 b20 b21) b22 tk t p (H.drop (h + 1))) = skp wt.toInt (i29 + 1).toInt (secL (mtB b19 b20 b21) b22 tk t p (H.drop (h + 1))) := by
            rw [e3]
            show (if i29.toInt = wt.toInt then _ else _) = _
            rw [if_neg k3]
          have el : (((Int32.ofNat p, t, Int32.ofNat q) :: secL (mtB b19 b20 b21) b22 tk t p (H.drop (h + 1))).length : Int) = (secL (mtB b19 b20 b21) b22 tk t p (H.drop (h + 1))).length + 1 := by show ((_ + 1 : Nat) : Int) = _; omega
          rw [es, el]
          rcases ih f (h + 1) (x8 + Int32.ofInt 1) (i29 + 1) (by omega) (by omega) (by omega) (by omega) (by omega) with r | ⟨r1, s, r2, r3⟩
          · exact Or.inl r
          · exact Or.inr ⟨r1, s, r2, by omega⟩
        · rw [if_neg k3]
          refine Or.inl ⟨(Int32.ofNat p, t, Int32.ofNat q), i29, ?_, ?_⟩
          · show (if i29.toInt = wt.toInt then _ else _) = _
            rw [if_pos (by omega)]
          · rw [epn]
      · rw [if_neg k2, if_neg n00, secL_n (fun z => k2 z.1)]
        exact ih f (h + 1) (x8 + Int32.ofInt 1) i29 (by omega) (by omega) (by omega) h0' (by omega)
/-- the first CLAUSE -/
theorem xs80 {wt x70 i17 i18 i19 i20 i21 i22 i23 i24 i25 i26 i27 : Int32} {f32 a37 : Nat → Int32} {ptn : Nat} {ptc : Nat → Int32} {H : List Nat} {tn : Nat} {K : Int32 → Int32 → (Nat → Int32) → R17q} (h9 : 0 ≤ i9.toInt ∧ i9.toInt ≤ 20) (hL : LAW i9 a18 a19 a20 a21 a22 a23 a24 a25 b15 b16 b17 b18 b19 b20 b21 b22) (hH : HL a37 i27 H) (hO : HOK i9 b18 b19 H) (hlen : H.length ≤ 320) (ht : x70.toInt = (tn : Int)) :
    ∀ (m f h : Nat) (x81 i29 : Int32) (a36 : Nat → Int32), x81.toInt = (h : Int) → H.length = h + m → m < f → 0 ≤ i29.toInt → i29.toInt + 320 * m ≤ 2000000 →
    (∃ (x : I3) (s : Int32), skp wt.toInt i29.toInt (frsL (mtB b19 b20 b21) b22 (f32 tn) x70 (H.drop h)) = some x ∧ x.2.1 = x70 ∧ f_x1_seekQuarrel_j80 wt a23 a24 a25 f32 i17 i18 i19 i20 i21 i22 i23 i24 i25 i26 i27 a37 ptn ptc x70 K f x81 i29 a36 = (1, i17, i18, i19, i20, i21, i22, i23, i24, i25, i26, i27, s, upd (F_x1_tellClause 3 x.2.2 (F_x1_tellClause 1 x.1 a36)) 0 x70, a37, ptn, ptc)) ∨
    (skp wt.toInt i29.toInt (frsL (mtB b19 b20 b21) b22 (f32 tn) x70 (H.drop h)) = none ∧ ∃ s : Int32, f_x1_seekQuarrel_j80 wt a23 a24 a25 f32 i17 i18 i19 i20 i21 i22 i23 i24 i25 i26 i27 a37 ptn ptc x70 K f x81 i29 a36 = K (x70 + Int32.ofInt 1) s a36 ∧ s.toInt = i29.toInt + (frsL (mtB b19 b20 b21) b22 (f32 tn) x70 (H.drop h)).length ∧ s.toInt ≤ i29.toInt + 320 * m) := by
  have o1 := co1
  have e1' := c1
  have hh := hH.1
  have sec_t : ∀ (p : Nat) (R : List Nat) (n : Int) (x : I3), skp wt.toInt n (secL (mtB b19 b20 b21) b22 (f32 tn) x70 p R) = some x → x.2.1 = x70 := by
    intro p R
    induction R with
    | nil => intro n x hx; cases hx
    | cons q R ih =>
      intro n x hx
      by_cases w : mtB b19 b20 b21 q (f32 tn) = true ∧ ¬ (b22 q).toInt = (b22 p).toInt
      · rw [secL_y w] at hx
        have hx : (if n = wt.toInt then some (Int32.ofNat p, x70, Int32.ofNat q) else skp wt.toInt (n + 1) (secL (mtB b19 b20 b21) b22 (f32 tn) x70 p R)) = some x := hx
        by_cases w2 : n = wt.toInt
        · rw [if_pos w2] at hx; cases hx; rfl
        · rw [if_neg w2] at hx; exact ih (n + 1) x hx
      · rw [secL_n w] at hx; exact ih n x hx
  intro m
  induction m with
  | zero =>
    intro f h x81 i29 a36 hx hm hf _ _
    obtain ⟨f, rfl⟩ : ∃ w, f = w + 1 := ⟨f - 1, by omega⟩
    have ed : H.drop h = [] := List.drop_eq_nil_of_le (by omega)
    rw [S_x1_seekQuarrel_j80, if_pos (by omega), ed]
    exact Or.inr ⟨rfl, i29, rfl, by show _ = i29.toInt + ((0 : Nat) : Int); omega, by omega⟩
  | succ m ih =>
    intro f h x81 i29 a36 hx hm hf h0' hb
    obtain ⟨f, rfl⟩ : ∃ w, f = w + 1 := ⟨f - 1, by omega⟩
    have hx1 := toInt_add hx co1 (by omega) (by omega)
    have hxs := suc_of hx (by omega)
    obtain ⟨p, q1, q2, q3⟩ := drop_at (H := H) (h := h) (by omega)
    obtain ⟨w1, w2, w3⟩ := hO p q3
    have eq : a37 x81.toNatClampNeg = Int32.ofNat p := by rw [nc hx]; exact hH.2 h p q1
    have hcp : (Int32.ofNat p).toInt = (p : Int) := nI_toInt (by omega)
    have hR := CLR_at (a18 := a18) (a19 := a19) (a20 := a20) h9 hL w1 w2
    have ev : (F_x2_value (a37 x81.toNatClampNeg) a25).toInt = (b22 p).toInt := by
      rw [eq, E_x2_value, x_num hcp (by omega), if_neg n10, nc hcp]
      exact (hR.2.2.2.2 w3).2.1
    rw [S_x1_seekQuarrel_j80, if_neg (by omega)]
    have es : F_x2_speaksOf (a37 x81.toNatClampNeg) (f32 x70.toNatClampNeg) a23 a24 = if mtB b19 b20 b21 p (f32 tn) = true then 1 else 0 := by
      rw [eq, nc ht]; exact speaks_of hcp (by omega) hR w3
    rw [es, q2]
    by_cases k2 : mtB b19 b20 b21 p (f32 tn) = true
    · rw [if_pos k2, if_neg n10, frsL_y k2]
      have S7 := xs7 (u0 := x81) (tk := f32 tn) (wt := wt) (t := x70) (p := p) (h0 := h) (a36 := a36) h9 hL hH hO hlen q1 hx ev m 320 (h + 1) (x81 + 1) i29 hxs (by omega) (by omega) h0' (by omega)
      have eSS : F_x1_seekSecond x81 (f32 x70.toNatClampNeg) wt i27 i29 a23 a24 a25 a36 a37 = f_x1_seekSecond_j7 x81 (f32 tn) wt i27 a23 a24 a25 a36 a37 (F_x2_value (a37 x81.toNatClampNeg) a25) 320 (x81 + 1) i29 := by rw [nc ht]; rfl
      rw [eSS]
      have hll := secL_len (mt := mtB b19 b20 b21) (vl := b22) (tk := f32 tn) (t := x70) (p := p) (H.drop (h + 1))
      have hdl : (H.drop (h + 1)).length ≤ 320 := by rw [List.length_drop]; omega
      rcases S7 with ⟨x, s, r1, r2⟩ | ⟨r1, s, r2, r3⟩
      · rw [r2, if_neg n10]
        exact Or.inl ⟨x, s, skp_app1 _ _ _ _ r1, sec_t _ _ _ _ r1, rfl⟩
      · rw [r2, if_pos y00, skp_app2 _ _ _ r1, ← r3]
        have el : ((secL (mtB b19 b20 b21) b22 (f32 tn) x70 p (H.drop (h + 1)) ++ frsL (mtB b19 b20 b21) b22 (f32 tn) x70 (H.drop (h + 1))).length : Int) = (secL (mtB b19 b20 b21) b22 (f32 tn) x70 p (H.drop (h + 1))).length + (frsL (mtB b19 b20 b21) b22 (f32 tn) x70 (H.drop (h + 1))).length := by rw [List.length_append]; omega
        rw [el]
        dsimp only
        rcases ih f (h + 1) (x81 + Int32.ofInt 1) s a36 (by omega) (by omega) (by omega) (by omega) (by omega) with r | ⟨z1, s2, z2, z3, z4⟩
        · exact Or.inl r
        · exact Or.inr ⟨z1, s2, z2, by omega, by omega⟩
    · rw [if_neg k2, if_pos y00, frsL_n k2]
      rcases ih f (h + 1) (x81 + Int32.ofInt 1) i29 a36 (by omega) (by omega) (by omega) h0' (by omega) with r | ⟨z1, s2, z2, z3, z4⟩
      · exact Or.inl r
      · exact Or.inr ⟨z1, s2, z2, z3, by omega⟩
/-- TOKEN by TOKEN -/
theorem xs69 {wt i17 i18 i19 i20 i21 i22 i23 i24 i25 i26 i27 : Int32} {f32 a37 : Nat → Int32} {n29 : Nat} {ptn : Nat} {ptc : Nat → Int32} {H : List Nat} (h9 : 0 ≤ i9.toInt ∧ i9.toInt ≤ 20) (hL : LAW i9 a18 a19 a20 a21 a22 a23 a24 a25 b15 b16 b17 b18 b19 b20 b21 b22) (hH : HL a37 i27 H) (hO : HOK i9 b18 b19 H) (hlen : H.length ≤ 320) (hn : n29 ≤ 8) :
    ∀ (m f t : Nat) (x70 i29 : Int32) (a36 : Nat → Int32), x70.toInt = (t : Int) → n29 = t + m → m < f → 0 ≤ i29.toInt → i29.toInt + 110000 * m ≤ 1000000 →
    (∃ (x : I3) (c36 : Nat → Int32) (s : Int32), skp wt.toInt i29.toInt (qrl (mtB b19 b20 b21) b22 f32 H m t) = some x ∧ f_x1_seekQuarrel_j69 wt a23 a24 a25 n29 f32 i17 i18 i19 i20 i21 i22 i23 i24 i25 i26 i27 a37 ptn ptc f x70 i29 a36 = (1, i17, i18, i19, i20, i21, i22, i23, i24, i25, i26, i27, s, upd (F_x1_tellClause 3 x.2.2 (F_x1_tellClause 1 x.1 c36)) 0 x.2.1, a37, ptn, ptc)) ∨
    (skp wt.toInt i29.toInt (qrl (mtB b19 b20 b21) b22 f32 H m t) = none ∧ ∃ s : Int32, f_x1_seekQuarrel_j69 wt a23 a24 a25 n29 f32 i17 i18 i19 i20 i21 i22 i23 i24 i25 i26 i27 a37 ptn ptc f x70 i29 a36 = (0, i17, i18, i19, i20, i21, i22, i23, i24, i25, i26, i27, s, a36, a37, ptn, ptc)) := by
  have o1 := co1
  have en : (Int32.ofNat n29).toInt = (n29 : Int) := nI_toInt (by omega)
  intro m
  induction m with
  | zero =>
    intro f t x70 i29 a36 hx hm hf _ _
    obtain ⟨f, rfl⟩ : ∃ w, f = w + 1 := ⟨f - 1, by omega⟩
    rw [S_x1_seekQuarrel_j69, if_pos (by omega)]
    exact Or.inr ⟨rfl, i29, rfl⟩
  | succ m ih =>
    intro f t x70 i29 a36 hx hm hf h0' hb
    obtain ⟨f, rfl⟩ : ∃ w, f = w + 1 := ⟨f - 1, by omega⟩
    have hx1 := toInt_add hx co1 (by omega) (by omega)
    have et : Int32.ofNat t = x70 := (oN hx).symm
    rw [S_x1_seekQuarrel_j69, if_neg (by omega)]
    show (∃ (x : I3) (c36 : Nat → Int32) (s : Int32), skp wt.toInt i29.toInt (frsL (mtB b19 b20 b21) b22 (f32 t) (Int32.ofNat t) H ++ qrl (mtB b19 b20 b21) b22 f32 H m (t + 1)) = some x ∧ _) ∨ (skp wt.toInt i29.toInt (frsL (mtB b19 b20 b21) b22 (f32 t) (Int32.ofNat t) H ++ qrl (mtB b19 b20 b21) b22 f32 H m (t + 1)) = none ∧ _)
    rw [et]
    have S8 := xs80 (wt := wt) (x70 := x70) (i17 := i17) (i18 := i18) (i19 := i19) (i20 := i20) (i21 := i21) (i22 := i22) (i23 := i23) (i24 := i24) (i25 := i25) (i26 := i26) (f32 := f32) (ptn := ptn) (ptc := ptc) (K := f_x1_seekQuarrel_j69 wt a23 a24 a25 n29 f32 i17 i18 i19 i20 i21 i22 i23 i24 i25 i26 i27 a37 ptn ptc f) h9 hL hH hO hlen hx H.length 321 0 0 i29 a36 c0 (by omega) (by omega) h0' (by omega)
    rw [List.drop_zero] at S8
    rcases S8 with ⟨x, s, r1, r2, r3⟩ | ⟨r1, s, r2, r3, r4⟩
    · rw [r3]
      exact Or.inl ⟨x, a36, s, skp_app1 _ _ _ _ r1, by rw [r2]⟩
    · rw [r2, skp_app2 _ _ _ r1, ← r3]
      rcases ih f (t + 1) (x70 + Int32.ofInt 1) s a36 (by omega) (by omega) (by omega) (by omega) (by omega) with ⟨x, c36, s2, z1, z2⟩ | ⟨z1, s2, z2⟩
      · exact Or.inl ⟨x, c36, s2, z1, z2⟩
      · exact Or.inr ⟨z1, s2, z2⟩
end XSQ
