/-! BREACHES: the class -/
section XBR
variable {v day i3 i6 i9 cu : Int32} {a7 a8 a13 a18 a19 a20 a21 a22 a23 a24 a25 a26 b2 b3 b4 b8 b15 b16 b17 b18 b19 b20 b21 b22 b23 b24 b25 b26 b5 : Nat → Int32} {r9n rtn : Nat → Nat} {r9c rtc : Nat → Nat → Int32} {c : Nat}
theorem xb59 {r n : Nat} {wt x51 cu i17 i18 i19 i20 i21 i22 i23 i24 i25 i26 i27 : Int32} {f32 a36 a37 : Nat → Int32} {ptn : Nat} {ptc : Nat → Int32} {ogn : Nat → Nat → Nat} {ogc : Nat → Nat → Nat → Int32} {K : Int32 → Int32 → R17q} (hcu : cu.toInt = (c : Int)) (hc : c < 320) (hR : CLR a22 a23 a24 a25 b19 b20 b21 b22 c) (hk : (b19 c).toInt = 119) (hn8 : n ≤ 8) (hN2 : ogn 4 r ≤ 12) :
    ∀ (m f t : Nat) (x60 i29 : Int32), x60.toInt = (t : Int) → n = t + m → m < f → 0 ≤ i29.toInt → i29.toInt + m ≤ 2000000 →
    (∃ (x : I2) (s : Int32), skp wt.toInt i29.toInt (brs (mtB b19 b20 b21) (TB ogn ogc b22 r) f32 c m t) = some x ∧ f_x1_seekBreach_j59 r wt a23 a24 a25 a36 ogn ogc n f32 i17 i18 i19 i20 i21 i22 i23 i24 i25 i26 i27 a37 ptn ptc x51 K cu f x60 i29 = (1, i17, i18, i19, i20, i21, i22, i23, i24, i25, i26, i27, s, upd (F_x1_tellClause 0 x.1 a36) (2 : Int32).toNatClampNeg x.2, a37, ptn, ptc)) ∨
    (skp wt.toInt i29.toInt (brs (mtB b19 b20 b21) (TB ogn ogc b22 r) f32 c m t) = none ∧ ∃ s : Int32, f_x1_seekBreach_j59 r wt a23 a24 a25 a36 ogn ogc n f32 i17 i18 i19 i20 i21 i22 i23 i24 i25 i26 i27 a37 ptn ptc x51 K cu f x60 i29 = K (x51 + Int32.ofInt 1) s ∧ s.toInt = i29.toInt + (brs (mtB b19 b20 b21) (TB ogn ogc b22 r) f32 c m t).length) := by
  have o1 := co1
  have e1' := c1
  have en : (Int32.ofNat n).toInt = (n : Int) := nI_toInt (by omega)
  have ev : (F_x2_value cu a25).toInt = (b22 c).toInt := by
    rw [E_x2_value, x_num hcu hc, if_neg n10, nc hcu]
    exact (hR.2.2.2.2 hk).2.1
  intro m
  induction m with
  | zero =>
    intro f t x60 i29 hx hm hf _ _
    obtain ⟨f, rfl⟩ : ∃ w, f = w + 1 := ⟨f - 1, by omega⟩
    rw [S_x1_seekBreach_j59, if_pos (by omega)]
    exact Or.inr ⟨rfl, i29, rfl, by show _ = i29.toInt + ((0 : Nat) : Int); omega⟩
  | succ m ih =>
    intro f t x60 i29 hx hm hf h0' hb
    obtain ⟨f, rfl⟩ : ∃ w, f = w + 1 := ⟨f - 1, by omega⟩
    have hx1 := toInt_add hx co1 (by omega) (by omega)
    rw [S_x1_seekBreach_j59, if_neg (by omega), nc hx, speaks_of hcu hc hR hk, TB_x (c := c) (t := t) (b22 := b22) hN2 hx ev]
    by_cases w : mtB b19 b20 b21 c (f32 t) = true
    · rw [if_pos w, if_neg n10]
      by_cases w2 : TB ogn ogc b22 r c t = true
      · rw [if_pos w2, if_neg n10, brs_n (fun z => z.2 w2)]
        exact ih f (t + 1) (x60 + Int32.ofInt 1) i29 (by omega) (by omega) (by omega) h0' (by omega)
      · rw [if_neg w2, if_pos y00, brs_y ⟨w, w2⟩]
        by_cases k3 : i29.toInt ≠ wt.toInt
        · have e2 := toInt_add (x := i29) rfl c1 (by omega) (by omega)
          have e3 : (i29 + 1).toInt = i29.toInt + 1 := by omega
          rw [if_pos k3]
          have es : skp wt.toInt i29.toInt ((Int32.ofNat c, Int32.ofNat t) :: brs (mtB b19 b20 b21) (TB ogn ogc b22 r) f32 c m (t + 1)) = skp wt.toInt (i29 + 1).toInt (brs (mtB b19 b20 b21) (TB ogn ogc b22 r) f32 c m (t + 1)) := by
            rw [e3]
            show (if i29.toInt = wt.toInt then _ else _) = _
            rw [if_neg k3]
          have el : (((Int32.ofNat c, Int32.ofNat t) :: brs (mtB b19 b20 b21) (TB ogn ogc b22 r) f32 c m (t + 1)).length : Int) = (brs (mtB b19 b20 b21) (TB ogn ogc b22 r) f32 c m (t + 1)).length + 1 := by show ((_ + 1 : Nat) : Int) = _; omega
          rw [es, el]
          rcases ih f (t + 1) (x60 + Int32.ofInt 1) (i29 + 1) (by omega) (by omega) (by omega) (by omega) (by omega) with r | ⟨r1, s, r2, r3⟩
          · exact Or.inl r
          · exact Or.inr ⟨r1, s, r2, by omega⟩
        · rw [if_neg k3]
          refine Or.inl ⟨(Int32.ofNat c, Int32.ofNat t), i29, ?_, ?_⟩
          · show (if i29.toInt = wt.toInt then _ else _) = _
            rw [if_pos (by omega)]
          · rw [oN hcu, oN hx]
    · rw [if_neg w, if_pos y00, brs_n (fun z => w z.1)]
      exact ih f (t + 1) (x60 + Int32.ofInt 1) i29 (by omega) (by omega) (by omega) h0' (by omega)
theorem xb50 {r n : Nat} {wt i17 i18 i19 i20 i21 i22 i23 i24 i25 i26 i27 : Int32} {f32 a36 a37 : Nat → Int32} {ptn : Nat} {ptc : Nat → Int32} {ogn : Nat → Nat → Nat} {ogc : Nat → Nat → Nat → Int32} {H : List Nat} (h9 : 0 ≤ i9.toInt ∧ i9.toInt ≤ 20) (hL : LAW i9 a18 a19 a20 a21 a22 a23 a24 a25 b15 b16 b17 b18 b19 b20 b21 b22) (hH : HL a37 i27 H) (hO : HOK i9 b18 b19 H) (hlen : H.length ≤ 320) (hn8 : n ≤ 8) (hN2 : ogn 4 r ≤ 12) :
    ∀ (m f h : Nat) (x51 i29 : Int32), x51.toInt = (h : Int) → H.length = h + m → m < f → 0 ≤ i29.toInt → i29.toInt + 8 * m ≤ 1000000 →
    (∃ (x : I2) (s : Int32), skp wt.toInt i29.toInt (brl (mtB b19 b20 b21) (TB ogn ogc b22 r) f32 n (H.drop h)) = some x ∧ f_x1_seekBreach_j50 r wt a23 a24 a25 a36 ogn ogc n f32 i17 i18 i19 i20 i21 i22 i23 i24 i25 i26 i27 a37 ptn ptc f x51 i29 = (1, i17, i18, i19, i20, i21, i22, i23, i24, i25, i26, i27, s, upd (F_x1_tellClause 0 x.1 a36) (2 : Int32).toNatClampNeg x.2, a37, ptn, ptc)) ∨
    (skp wt.toInt i29.toInt (brl (mtB b19 b20 b21) (TB ogn ogc b22 r) f32 n (H.drop h)) = none ∧ ∃ s : Int32, f_x1_seekBreach_j50 r wt a23 a24 a25 a36 ogn ogc n f32 i17 i18 i19 i20 i21 i22 i23 i24 i25 i26 i27 a37 ptn ptc f x51 i29 = (0, i17, i18, i19, i20, i21, i22, i23, i24, i25, i26, i27, s, a36, a37, ptn, ptc) ∧ s.toInt = i29.toInt + (brl (mtB b19 b20 b21) (TB ogn ogc b22 r) f32 n (H.drop h)).length) := by
  have o1 := co1
  have hh := hH.1
  intro m
  induction m with
  | zero =>
    intro f h x51 i29 hx hm hf _ _
    obtain ⟨f, rfl⟩ : ∃ w, f = w + 1 := ⟨f - 1, by omega⟩
    have ed : H.drop h = [] := List.drop_eq_nil_of_le (by omega)
    rw [S_x1_seekBreach_j50, if_pos (by omega), ed]
    exact Or.inr ⟨rfl, i29, rfl, by show _ = i29.toInt + ((0 : Nat) : Int); omega⟩
  | succ m ih =>
    intro f h x51 i29 hx hm hf h0' hb
    obtain ⟨f, rfl⟩ : ∃ w, f = w + 1 := ⟨f - 1, by omega⟩
    have hx1 := toInt_add hx co1 (by omega) (by omega)
    obtain ⟨q, q1, q2, q3⟩ := drop_at (H := H) (h := h) (by omega)
    obtain ⟨w1, w2, w3⟩ := hO q q3
    have eq : a37 x51.toNatClampNeg = Int32.ofNat q := by rw [nc hx]; exact hH.2 h q q1
    have hcq : (Int32.ofNat q).toInt = (q : Int) := nI_toInt (by omega)
    have hR := CLR_at (a18 := a18) (a19 := a19) (a20 := a20) h9 hL w1 w2
    have hl := brs_len (mt := mtB b19 b20 b21) (tb := TB ogn ogc b22 r) (tok := f32) (c := q) n 0
    rw [S_x1_seekBreach_j50, if_neg (by omega), eq, q2]
    have S5 := xb59 (ogc := ogc) (wt := wt) (x51 := x51) (i17 := i17) (i18 := i18) (i19 := i19) (i20 := i20) (i21 := i21) (i22 := i22) (i23 := i23) (i24 := i24) (i25 := i25) (i26 := i26) (i27 := i27) (f32 := f32) (a36 := a36) (a37 := a37) (ptn := ptn) (ptc := ptc) (K := f_x1_seekBreach_j50 r wt a23 a24 a25 a36 ogn ogc n f32 i17 i18 i19 i20 i21 i22 i23 i24 i25 i26 i27 a37 ptn ptc f) hcq (by omega) hR w3 hn8 hN2 n 201 0 0 i29 c0 (by omega) (by omega) h0' (by omega)
    show (∃ (x : I2) (s : Int32), skp wt.toInt i29.toInt (brs (mtB b19 b20 b21) (TB ogn ogc b22 r) f32 q n 0 ++ brl (mtB b19 b20 b21) (TB ogn ogc b22 r) f32 n (H.drop (h + 1))) = some x ∧ _) ∨ (skp wt.toInt i29.toInt (brs (mtB b19 b20 b21) (TB ogn ogc b22 r) f32 q n 0 ++ brl (mtB b19 b20 b21) (TB ogn ogc b22 r) f32 n (H.drop (h + 1))) = none ∧ ∃ s : Int32, _ ∧ s.toInt = i29.toInt + ((brs (mtB b19 b20 b21) (TB ogn ogc b22 r) f32 q n 0 ++ brl (mtB b19 b20 b21) (TB ogn ogc b22 r) f32 n (H.drop (h + 1))).length : Int))
    rcases S5 with ⟨x, s, r1, r2⟩ | ⟨r1, s, r2, r3⟩
    · rw [r2]
      exact Or.inl ⟨x, s, skp_app1 _ _ _ _ r1, rfl⟩
    · rw [r2, skp_app2 _ _ _ r1, ← r3]
      have el : ((brs (mtB b19 b20 b21) (TB ogn ogc b22 r) f32 q n 0 ++ brl (mtB b19 b20 b21) (TB ogn ogc b22 r) f32 n (H.drop (h + 1))).length : Int) = (brs (mtB b19 b20 b21) (TB ogn ogc b22 r) f32 q n 0).length + (brl (mtB b19 b20 b21) (TB ogn ogc b22 r) f32 n (H.drop (h + 1))).length := by rw [List.length_append]; omega
      rw [el]
      rcases ih f (h + 1) (x51 + Int32.ofInt 1) s (by omega) (by omega) (by omega) (by omega) (by omega) with r | ⟨z1, s2, z2, z3⟩
      · exact Or.inl r
      · exact Or.inr ⟨z1, s2, z2, by omega⟩
end XBR
