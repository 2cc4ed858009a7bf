/-! VOID, on both sides: all of it -/
section VOIDN
variable {u0 i1 i3 i5 i8 i10 i11 j18 : Int32} {b12 c12 d12 a29 a30 a31 a32 b34 b35 b43 b44 b45 b46 b47 b48 b49 b50 b51 b52 b53 : Nat → Int32} {og og0 : Nat → Nat → Int32} {s : Nat}
theorem vd_loop (h200 : i10.toInt ≤ 200) (hi3 : i3.toInt ≤ 60) (hu : u0.toInt = (s : Int)) (hs : s < 24) (hs12 : (c12 s).toInt = 0) (hd : ∀ q, q < 24 → (d12 q).toInt = 0 → (c12 q).toInt = 0 ∧ q ≠ s) (h1 : ∀ q : Nat, (q : Int) < i10.toInt → og0 1 q = b34 q) :
    ∀ (m f g r : Nat) (n x i11 : Int32) (a29 a30 a31 a32 : Nat → Int32) (og : Nat → Nat → Int32) (j18 : Int32) (b35 b43 b44 b45 b46 b47 b51 b52 b53 : Nat → Int32), x.toInt = (r : Int) → (r : Int) + (m : Int) = i10.toInt → m < f → m < g → VS2 r i3 i10 c12 d12 b34 b48 b49 b50 og0 i11 a29 a30 a31 a32 og j18 b35 b43 b44 b45 b46 b47 b51 b52 b53 →
    (f_x8_withdraw_j1 u0 i1 i10 f n x i11 a29 a30 a31 a32 og).1 = (f_m12_voids_j14 u0 i1 i10 b34 b48 d12 g n x j18 b35 b43 b44 b45 b46 b47 b51 b52 b53).1 ∧ (f_m12_voids_j14 u0 i1 i10 b34 b48 d12 g n x j18 b35 b43 b44 b45 b46 b47 b51 b52 b53).2.2.1 = d12 ∧ VSP i10.toInt.toNat i3 i10 c12 d12 b34 b48 b49 b50 og0 (f_x8_withdraw_j1 u0 i1 i10 f n x i11 a29 a30 a31 a32 og).2 ((f_m12_voids_j14 u0 i1 i10 b34 b48 d12 g n x j18 b35 b43 b44 b45 b46 b47 b51 b52 b53).2.1, (f_m12_voids_j14 u0 i1 i10 b34 b48 d12 g n x j18 b35 b43 b44 b45 b46 b47 b51 b52 b53).2.2.2) := by
  intro m
  induction m with
  | zero =>
    intro f g r n x i11 a29 a30 a31 a32 og j18 b35 b43 b44 b45 b46 b47 b51 b52 b53 hx hr hf hg h
    obtain ⟨f, rfl⟩ : ∃ w, f = w + 1 := ⟨f - 1, by omega⟩
    obtain ⟨g, rfl⟩ : ∃ w, g = w + 1 := ⟨g - 1, by omega⟩
    have w : x.toInt ≥ i10.toInt := by omega
    have e : r = i10.toInt.toNat := by omega
    subst e
    rw [S_x8_withdraw_j1, S_m12_voids_j14, if_pos w, if_pos w]
    exact ⟨rfl, rfl, h⟩
  | succ m ih =>
    intro f g r n x i11 a29 a30 a31 a32 og j18 b35 b43 b44 b45 b46 b47 b51 b52 b53 hx hr hf hg h
    obtain ⟨f, rfl⟩ : ∃ w, f = w + 1 := ⟨f - 1, by omega⟩
    obtain ⟨g, rfl⟩ : ∃ w, g = w + 1 := ⟨g - 1, by omega⟩
    have w : ¬ x.toInt ≥ i10.toInt := by omega
    have hz : (x + Int32.ofInt 1).toInt = ((r + 1 : Nat) : Int) := by
      have := toInt_add hx co1 (by omega) (by omega)
      omega
    have r1 : og 1 r = b34 r := (h.2.2.2.2.2.2.2.1 1 r (by decide)).trans (h1 r (by omega))
    obtain ⟨d1, -, d3⟩ := vd_one (i1 := i1) hx (by omega) h200 hi3 hu hs hs12 r1 hd h
    rw [xw_step hx w, S_m12_voids_j14, if_neg w, d1]
    generalize F_m12_goesBack x u0 i1 j18 b34 b35 b43 b44 b45 b46 b47 b48 b51 b52 b53 = M at d3 ⊢
    generalize XW1 u0 i1 r i11 a29 a30 a31 a32 og = X at d3 ⊢
    exact ih f g (r + 1) (n + M.1) (x + Int32.ofInt 1) X.2.1 X.2.2.1 X.2.2.2.1 X.2.2.2.2.1 X.2.2.2.2.2.1 X.2.2.2.2.2.2 M.2.1 M.2.2.1 M.2.2.2.1 M.2.2.2.2.1 M.2.2.2.2.2.1 M.2.2.2.2.2.2.1 M.2.2.2.2.2.2.2.1 M.2.2.2.2.2.2.2.2.1 M.2.2.2.2.2.2.2.2.2.1 M.2.2.2.2.2.2.2.2.2.2 hz (by omega) (by omega) (by omega) d3
def RVV (i3 i10 : Int32) (b34 b48 b49 b50 : Nat → Int32) (og0 : Nat → Nat → Int32) (x : Int32 × Int32 × Int32 × (Nat → Int32) × (Nat → Int32) × (Nat → Int32) × (Nat → Int32) × (Nat → Nat → Int32)) (m : M12c) : Prop :=
  x.1 = m.1 ∧ VDS x.2.1 m.2.2.1 ∧ RNS i3 i10 x.2.2.2.2.2.2.2 b34 m.2.2.2.1 m.2.2.2.2.1 ∧ KEP i10 x.2.2.2.2.2.2.2 m.2.2.2.2.2.1 m.2.2.2.2.2.2.1 m.2.2.2.2.2.2.2.1 ∧ VOT i10 x.2.2.2.2.2.2.2 b49 b50 ∧ STD i10 m.2.2.1 m.2.2.2.1 m.2.2.2.2.2.2.2.1 m.2.2.2.2.2.2.2.2.1 b48 b49 b50 ∧ FXD i10 x.2.2.2.1 b34 m.2.2.2.1 ∧ TEL i10 x.2.2.1 m.2.1 x.2.2.2.2.1 x.2.2.2.2.2.1 x.2.2.2.2.2.2.1 m.2.2.2.2.2.2.2.2.2.1 m.2.2.2.2.2.2.2.2.2.2.1 m.2.2.2.2.2.2.2.2.2.2.2 ∧ TLV i3 x.2.2.1 x.2.2.2.2.1 ∧ ∀ f j, f < 7 → x.2.2.2.2.2.2.2 f j = og0 f j
theorem R_voids (h10 : 0 ≤ i10.toInt ∧ i10.toInt ≤ 200) (hi3 : i3.toInt ≤ 60) (h5 : 0 ≤ i5.toInt ∧ i5.toInt ≤ 24) (hD : VDS i8 b12) (hS : RNS i3 i10 og b34 b35 b43) (hK : KEP i10 og b44 b45 b46) (hT : VOT i10 og b49 b50) (hB : STD i10 b12 b35 b46 b47 b48 b49 b50) (hX : FXD i10 a29 b34 b35) (hE : TEL i10 i11 j18 a30 a31 a32 b51 b52 b53) (hE2 : TLV i3 i11 a30) (h1 : ∀ q : Nat, (q : Int) < i10.toInt → og 1 q = b34 q) (h22 : j18.toInt + cntF b35 ≤ 1022) :
    RVV i3 i10 b34 b48 b49 b50 og (F_x11_voids u0 i1 i5 i8 i10 i11 a29 a30 a31 a32 og) (F_m12_voids u0 i1 i5 i10 j18 b12 b34 b35 b43 b44 b45 b46 b47 b48 b51 b52 b53) := by
  have e1 : (i5 - 1).toInt = i5.toInt - 1 := by have := toInt_sub (x := i5) rfl c1 (by omega) (by omega); omega
  have no : RVV i3 i10 b34 b48 b49 b50 og ((-1 : Int32), i8, i11, a29, a30, a31, a32, og) ((-1 : Int32), j18, b12, b35, b43, b44, b45, b46, b47, b51, b52, b53) := ⟨rfl, hD, hS, hK, hT, hB, hX, hE, hE2, fun _ _ _ => rfl⟩
  rw [E_x11_voids, E_m12_voids]
  rcases mlie (u := u0) c0 e1 with ⟨g1, g⟩ | ⟨g1, g⟩
  · rcases xsch (u := u0) (i7 := i5) with ⟨_, k⟩ | ⟨k1, _⟩
    · rw [g, k, if_neg n10, if_neg n10]
      rcases vd_at hD (u := u0) (by omega) with ⟨v1, v⟩ | ⟨v1, v⟩
      · obtain ⟨s, hs⟩ : ∃ s : Nat, u0.toInt = (s : Int) := ⟨u0.toInt.toNat, by omega⟩
        have hs24 : s < 24 := by omega
        rw [nc hs] at v1
        have bz : ¬ (vp_nar .boolean (1 : Int32)).toInt = 0 := by decide
        have hd : ∀ q, q < 24 → (upd b12 s (vp_nar .boolean (1 : Int32)) q).toInt = 0 → (b12 q).toInt = 0 ∧ q ≠ s := by
          intro q _ hz
          by_cases e : q = s
          · subst e; rw [upd_s] at hz; exact absurd hz bz
          · rw [upd_n e] at hz; exact ⟨hz, e⟩
        have L := vd_loop (i1 := i1) (d12 := upd b12 s (vp_nar .boolean (1 : Int32))) h10.2 hi3 hs hs24 v1 hd h1 i10.toInt.toNat 201 201 0 (0 : Int32) (0 : Int32) i11 a29 a30 a31 a32 og j18 b35 b43 b44 b45 b46 b47 b51 b52 b53 c0 (by omega) (by omega) (by omega) ⟨hS, hK, hT, fun q hq => ⟨fun _ => hB q hq, fun z => absurd z (Nat.not_lt_zero q)⟩, hX, hE, hE2, fun _ _ _ => rfl, h22⟩
        rw [v, if_pos y00, nc hs, if_pos v1, E_x8_withdraw, E_x4_makeVoid]
        generalize f_x8_withdraw_j1 u0 i1 i10 201 (0 : Int32) (0 : Int32) i11 a29 a30 a31 a32 og = X at L ⊢
        generalize f_m12_voids_j14 u0 i1 i10 b34 b48 (upd b12 s (vp_nar .boolean (1 : Int32))) 201 (0 : Int32) (0 : Int32) j18 b35 b43 b44 b45 b46 b47 b51 b52 b53 = M at L ⊢
        obtain ⟨x1, x11, x29, x30, x31, x32, xo⟩ := X
        obtain ⟨m1, m18, m12, m35, m43, m44, m45, m46, m47, m51, m52, m53⟩ := M
        obtain ⟨l1, l2, l3, l4, l5, l6, l7, l8, l9, l10, -⟩ := L
        have l1 : x1 = m1 := l1
        have l2 : m12 = upd b12 s (vp_nar .boolean (1 : Int32)) := l2
        subst l1
        subst l2
        refine ⟨rfl, ?_, l3, l4, l5, fun q hq => (l6 q hq).2 (by omega), l7, l8, l9, l10⟩
        intro q hq
        show bitI (i8 ||| ((1 : Int32) <<< (u0 &&& 31))) q = true ↔ (upd b12 s (vp_nar .boolean (1 : Int32)) q).toInt ≠ 0
        rw [qI_or, qI_sh g1.1 (by omega)]
        by_cases w : q = s
        · subst w
          rw [decide_eq_true (show u0.toInt.toNat = q by omega), Bool.or_true, upd_s]
          exact ⟨fun _ => bz, fun _ => rfl⟩
        · rw [decide_eq_false (show ¬ u0.toInt.toNat = q by omega), Bool.or_false, upd_n w]
          exact hD q hq
      · rw [v, if_neg n10, if_neg v1]; exact no
    · omega
  · rcases xsch (u := u0) (i7 := i5) with ⟨k1, _⟩ | ⟨_, k⟩
    · omega
    · rw [g, k, if_pos y00, if_pos y00]; exact no
end VOIDN
