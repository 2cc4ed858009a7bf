/-! UNLIKE twos, as the class goes through them -/
section XUN
variable {v day i3 i6 i9 cu : Int32} {a7 a8 a13 a18 a19 a20 a21 a22 a23 a24 a25 a26 b2 b3 b4 b8 b15 b16 b17 b18 b19 b20 b21 b22 b23 b24 b25 b26 b5 : Nat → Int32} {r9n rtn : Nat → Nat} {r9c rtc : Nat → Nat → Int32} {c : Nat}
abbrev R20 := Int32 × Int32 × Int32 × Int32 × Int32 × Int32 × Int32 × Int32 × Int32 × Int32 × Int32 × Int32 × Int32 × (Nat → Int32) × (Nat → Int32) × (Nat → Int32) × (Nat → Int32) × (Nat → Int64) × Nat × (Nat → Int32)
/-- the places that are kept -/
def PLH (i28 : Int32) (a38 a39 a40 : Nat → Int32) (sg : PL → Int32) (L : List PL) : Prop := i28.toInt = (L.length : Int) ∧ ∀ (k : Nat) (a : PL), L[k]? = some a → a38 k = Int32.ofNat a.1 ∧ a39 k = Int32.ofNat a.2 ∧ a40 k = sg a
theorem PLH_add {i28 x y z : Int32} {a38 a39 a40 : Nat → Int32} {sg : PL → Int32} {L : List PL} {a : PL} (h : PLH i28 a38 a39 a40 sg L) (hl : L.length < 1000) (hx : x = Int32.ofNat a.1) (hy : y = Int32.ofNat a.2) (hz : z = sg a) : PLH (i28 + 1) (upd a38 i28.toNatClampNeg x) (upd a39 i28.toNatClampNeg y) (upd a40 i28.toNatClampNeg z) sg (L ++ [a]) := by
  obtain ⟨h1, h2⟩ := h
  have e1 := suc_of h1 (by omega)
  refine ⟨by rw [List.length_append]; exact e1, fun k b hk => ?_⟩
  rw [nc h1]
  by_cases w : k < L.length
  · rw [List.getElem?_append_left w] at hk
    have n : ∀ (f : Nat → Int32) (v : Int32), upd f L.length v k = f k := fun f v => by unfold upd; rw [if_neg (by omega)]
    rw [n, n, n]
    exact h2 k b hk
  · rw [List.getElem?_append_right (by omega)] at hk
    by_cases e : k = L.length
    · subst e
      rw [Nat.sub_self] at hk
      have hk : a = b := Option.some.inj hk
      subst hk
      rw [upd_s, upd_s, upd_s]
      exact ⟨hx, hy, hz⟩
    · obtain ⟨d, hd⟩ : ∃ d, k - L.length = d + 1 := ⟨k - L.length - 1, by omega⟩
      rw [hd] at hk; cases hk
theorem xa_loop {u0 : Int32} {v n : Nat} {f1 : Nat → Int32} {sg : PL → Int32} (hu : u0.toInt = (v : Int)) (hn : n ≤ 8) (hsg : ∀ p, p + 1 < n → sg (v, p) = f1 p * (256 : Int32) + f1 (p + 1)) : ∀ (m f p : Nat) (x2 i28 : Int32) (a38 a39 a40 : Nat → Int32) (L : List PL), x2.toInt = (p : Int) → n - 1 = p + m → m < f → PLH i28 a38 a39 a40 sg L → L.length + m ≤ 420 →
    ∃ (j28 : Int32) (c38 c39 c40 : Nat → Int32), f_x1_addPlaces_j1 u0 n f1 f x2 i28 a38 a39 a40 = (j28, c38, c39, c40) ∧ PLH j28 c38 c39 c40 sg (L ++ prow v m p) := by
  have en : (Int32.ofNat n).toInt = (n : Int) := nI_toInt (by omega)
  have o1 := co1
  intro m
  induction m with
  | zero =>
    intro f p x2 i28 a38 a39 a40 L hx hm hf hH _
    obtain ⟨f, rfl⟩ : ∃ w, f = w + 1 := ⟨f - 1, by omega⟩
    have e1 := suc_of hx (by omega)
    rw [S_x1_addPlaces_j1, if_pos (by omega)]
    exact ⟨i28, a38, a39, a40, rfl, by show PLH i28 a38 a39 a40 sg (L ++ []); rw [List.append_nil]; exact hH⟩
  | succ m ih =>
    intro f p x2 i28 a38 a39 a40 L hx hm hf hH hl
    obtain ⟨f, rfl⟩ : ∃ w, f = w + 1 := ⟨f - 1, by omega⟩
    have e1 := suc_of hx (by omega)
    have hx1 := toInt_add hx co1 (by omega) (by omega)
    have h1 := hH.1
    rw [S_x1_addPlaces_j1, if_neg (by omega), if_neg (by omega), nc hx, nc e1]
    have hA := PLH_add (a := (v, p)) hH (by omega) (oN hu) (oN hx) (hsg p (by omega)).symm
    have el : (L ++ [(v, p)]).length = L.length + 1 := by rw [List.length_append]; rfl
    obtain ⟨j28, c38, c39, c40, r1, r2⟩ := ih f (p + 1) (x2 + Int32.ofInt 1) _ _ _ _ (L ++ [(v, p)]) (by omega) (by omega) (by omega) hA (by omega)
    refine ⟨j28, c38, c39, c40, r1, ?_⟩
    rw [List.append_assoc] at r2
    exact r2
/-- whether any s CLAUSE holds for VERSE w -/
noncomputable def okB (day i6 i9 : Int32) (b2 b3 b4 b8 b15 b16 b17 b18 b19 b20 b21 b23 b24 b25 b26 : Nat → Int32) (w : Nat) : Bool := bothB (hwB 115 (Int32.ofNat w) day i6 i9 b2 b3 b4 b8 b15 b16 b17 b18 b19 b20 b21 b23 b24 b25 b26) (hwB 115 (Int32.ofNat w) day i6 i9 b2 b3 b4 b8 b15 b16 b17 b18 b19 b20 b21 b23 b24 b25 b26) (16 * i9.toInt.toNat) 0
theorem ok_of {y : Int32} {w N : Nat} {f : Nat → Bool} (h : ANB y N f) : y = if bothB f f N 0 = true then 1 else 0 := by
  rcases h with ⟨h1, k, h2, h3⟩ | ⟨h1, h2⟩
  · rw [if_pos ((both_iff N 0).mpr ⟨k, by omega, by omega, h3, h3⟩)]; exact h1
  · rw [if_neg]
    · exact h1
    · intro z
      obtain ⟨k, _, k2, k3, _⟩ := (both_iff N 0).mp z
      exact h2 k (by omega) k3
theorem xu1 {wt i10 : Int32} {a29 a36 : Nat → Int32} {ogn : Nat → Nat → Nat} {ogc : Nat → Nat → Nat → Int32} {np : Nat → Nat} {sg : PL → Int32} (h9 : 0 ≤ i9.toInt ∧ i9.toInt ≤ 20) (hL : LAW i9 a18 a19 a20 a21 a22 a23 a24 a25 b15 b16 b17 b18 b19 b20 b21 b22) (hC : RCC i9 a21 a26 rtn rtc b23 b24 b25 b26) (hv : 0 ≤ i3.toInt ∧ i3.toInt ≤ 60) (h6 : 0 ≤ i6.toInt ∧ i6.toInt ≤ 6) (hVR : VRS i3 a7 b2) (hM : MES i3 a8 b3) (hP : PPL i6 a13 b8) (hK : KI i9 b18 b19 b20 b21 b22) (hR : RWS r9n r9c b4 b5)
    (hfx : ∀ (w : Nat) (x : Int32), x.toInt = (w : Int) → (w : Int) < i3.toInt → (F_x8_fixedAt x i10 a29 = 0 ∧ (a29 w).toInt = -1 ∧ np w = 0) ∨ (∃ r : Nat, F_x8_fixedAt x i10 a29 = r + 1 ∧ (a29 w).toInt = (r : Int) ∧ ogn 3 r ≤ 8 ∧ np w = ogn 3 r - 1 ∧ ∀ p, p + 1 < ogn 3 r → sg (w, p) = ogc 3 r p * (256 : Int32) + ogc 3 r (p + 1))) :
    ∀ (m f v : Nat) (x2 i17 i18 i19 i20 i21 i22 i23 i24 i25 i26 i28 : Int32) (a38 a39 a40 : Nat → Int32) (l41 : Nat → Int64) (ptn : Nat) (ptc : Nat → Int32) (L : List PL), x2.toInt = (v : Int) → i3.toInt = (v : Int) + m → m < f → PLH i28 a38 a39 a40 sg L → L.length + 7 * m ≤ 420 → (∀ w, w < v → ¬ (a29 w).toInt = -1 → MKS l41 w (16 * i9.toInt.toNat) (hwB 115 (Int32.ofNat w) day i6 i9 b2 b3 b4 b8 b15 b16 b17 b18 b19 b20 b21 b23 b24 b25 b26)) →
    ∃ (j17 j18 j19 j20 j21 j22 j23 j24 j25 j26 j28 : Int32) (c38 c39 c40 : Nat → Int32) (l' : Nat → Int64) (qtn : Nat) (qtc : Nat → Int32), f_x1_seekUnlike_j1 day wt i3 i6 i9 i10 a7 a8 a13 a18 a19 a20 a21 a22 a23 a25 a26 a29 a36 r9n r9c ogn ogc rtn rtc f x2 i17 i18 i19 i20 i21 i22 i23 i24 i25 i26 i28 a38 a39 a40 l41 ptn ptc = f_x1_seekUnlike_j31 wt i10 a29 a36 ogn ogc j17 j18 j19 j20 j21 j22 j23 j24 j25 j26 j28 c38 c39 c40 l' qtn qtc 422 0 0 ∧ PLH j28 c38 c39 c40 sg (L ++ plc (fun w => if okB day i6 i9 b2 b3 b4 b8 b15 b16 b17 b18 b19 b20 b21 b23 b24 b25 b26 w = true then np w else 0) m v) ∧ ∀ w, w < v + m → ¬ (a29 w).toInt = -1 → MKS l' w (16 * i9.toInt.toNat) (hwB 115 (Int32.ofNat w) day i6 i9 b2 b3 b4 b8 b15 b16 b17 b18 b19 b20 b21 b23 b24 b25 b26) := by
  have o1 := co1
  intro m
  induction m with
  | zero =>
    intro f v x2 i17 i18 i19 i20 i21 i22 i23 i24 i25 i26 i28 a38 a39 a40 l41 ptn ptc L hx hm hf hH _ hK2
    obtain ⟨f, rfl⟩ : ∃ w, f = w + 1 := ⟨f - 1, by omega⟩
    rw [S_x1_seekUnlike_j1, if_pos (show x2.toInt ≥ (F_x9_size i3).toInt by show x2.toInt ≥ i3.toInt; omega)]
    exact ⟨i17, i18, i19, i20, i21, i22, i23, i24, i25, i26, i28, a38, a39, a40, l41, ptn, ptc, rfl, by show PLH i28 a38 a39 a40 sg (L ++ []); rw [List.append_nil]; exact hH, hK2⟩
  | succ m ih =>
    intro f v x2 i17 i18 i19 i20 i21 i22 i23 i24 i25 i26 i28 a38 a39 a40 l41 ptn ptc L hx hm hf hH hl hK2
    obtain ⟨f, rfl⟩ : ∃ w, f = w + 1 := ⟨f - 1, by omega⟩
    have hx1 := toInt_add hx co1 (by omega) (by omega)
    have ep : ∀ q : Nat, plc (fun w => if okB day i6 i9 b2 b3 b4 b8 b15 b16 b17 b18 b19 b20 b21 b23 b24 b25 b26 w = true then np w else 0) (q + 1) v = prow v (if okB day i6 i9 b2 b3 b4 b8 b15 b16 b17 b18 b19 b20 b21 b23 b24 b25 b26 v = true then np v else 0) 0 ++ plc (fun w => if okB day i6 i9 b2 b3 b4 b8 b15 b16 b17 b18 b19 b20 b21 b23 b24 b25 b26 w = true then np w else 0) q (v + 1) := fun _ => rfl
    rw [S_x1_seekUnlike_j1, if_neg (show ¬ x2.toInt ≥ (F_x9_size i3).toInt by show ¬ x2.toInt ≥ i3.toInt; omega), ep]
    rcases hfx v x2 hx (by omega) with ⟨k1, k2, k3⟩ | ⟨r, k1, k2, k3, k4, k5⟩
    · have e0 : prow v (if okB day i6 i9 b2 b3 b4 b8 b15 b16 b17 b18 b19 b20 b21 b23 b24 b25 b26 v = true then np v else 0) 0 = [] := by rw [k3]; split <;> rfl
      rw [if_pos k1, e0, List.nil_append]
      obtain ⟨j17, j18, j19, j20, j21, j22, j23, j24, j25, j26, j28, c38, c39, c40, l', qtn, qtc, r1, r2, r3⟩ := ih f (v + 1) (x2 + Int32.ofInt 1) i17 i18 i19 i20 i21 i22 i23 i24 i25 i26 i28 a38 a39 a40 l41 ptn ptc L (by omega) (by omega) (by omega) hH (by omega) (fun w w1 w2 => by
        by_cases e : w = v
        · rw [e] at w2; exact absurd k2 w2
        · exact hK2 w (by omega) w2)
      exact ⟨j17, j18, j19, j20, j21, j22, j23, j24, j25, j26, j28, c38, c39, c40, l', qtn, qtc, r1, r2, fun w w1 w2 => r3 w (by omega) w2⟩
    · obtain ⟨y, y17, y18, y19, y20, y21, y22, y23, y24, y25, y26, l2, p2, c2, m1, m2, m3, m4⟩ := xm_of (v := x2) (day := day) (i3 := i3) (i25 := i25) (i26 := i26) (l41 := l41) (ptn := ptn) (ptc := ptc) hx (by omega) hv h6 h9 hL hC hVR hM hP hK hR
      have ex : x2 = Int32.ofNat v := oN hx
      rw [if_neg (by rw [k1]; exact Nat.succ_ne_zero r), m1]
      dsimp only
      have eo : y = if okB day i6 i9 b2 b3 b4 b8 b15 b16 b17 b18 b19 b20 b21 b23 b24 b25 b26 v = true then 1 else 0 := by
        rw [ex] at m4; exact ok_of (w := v) m4
      have hK3 : ∀ w, w < v + 1 → ¬ (a29 w).toInt = -1 → MKS l2 w (16 * i9.toInt.toNat) (hwB 115 (Int32.ofNat w) day i6 i9 b2 b3 b4 b8 b15 b16 b17 b18 b19 b20 b21 b23 b24 b25 b26) := by
        intro w w1 w2
        by_cases e : w = v
        · rw [e]; rw [ex] at m2; exact m2
        · intro k hk
          rw [m3 (5 * w + k / 64) (by omega)]
          exact hK2 w (by omega) w2 k hk
      by_cases o : okB day i6 i9 b2 b3 b4 b8 b15 b16 b17 b18 b19 b20 b21 b23 b24 b25 b26 v = true
      · rw [if_pos o] at eo
        rw [eo, if_neg n10, if_pos o, show F_x7_tokenRow (F_x8_fixedAt x2 i10 a29 - 1) ogn ogc = (ogn 3 r, ogc 3 r) by rw [k1]; rfl]
        dsimp only
        obtain ⟨z28, z38, z39, z40, a1, a2⟩ := xa_loop (u0 := x2) (v := v) (n := ogn 3 r) (f1 := ogc 3 r) (sg := sg) hx k3 k5 (np v) 200 0 0 i28 a38 a39 a40 L c0 (by omega) (by omega) hH (by omega)
        rw [E_x1_addPlaces, a1]
        dsimp only
        have ell : (L ++ prow v (np v) 0).length = L.length + np v := by rw [List.length_append, prow_len]
        rw [← List.append_assoc]
        obtain ⟨j17, j18, j19, j20, j21, j22, j23, j24, j25, j26, j28, c38, c39, c40, l', qtn, qtc, r1, r2, r3⟩ := ih f (v + 1) (x2 + Int32.ofInt 1) y17 y18 y19 y20 y21 y22 y23 y24 y25 y26 z28 z38 z39 z40 l2 p2 c2 (L ++ prow v (np v) 0) (by omega) (by omega) (by omega) a2 (by omega) hK3
        exact ⟨j17, j18, j19, j20, j21, j22, j23, j24, j25, j26, j28, c38, c39, c40, l', qtn, qtc, r1, r2, fun w w1 w2 => r3 w (by omega) w2⟩
      · rw [if_neg o] at eo
        rw [eo, if_pos y00, if_neg o]
        obtain ⟨j17, j18, j19, j20, j21, j22, j23, j24, j25, j26, j28, c38, c39, c40, l', qtn, qtc, r1, r2, r3⟩ := ih f (v + 1) (x2 + Int32.ofInt 1) y17 y18 y19 y20 y21 y22 y23 y24 y25 y26 i28 a38 a39 a40 l2 p2 c2 L (by omega) (by omega) (by omega) hH (by omega) hK3
        exact ⟨j17, j18, j19, j20, j21, j22, j23, j24, j25, j26, j28, c38, c39, c40, l', qtn, qtc, r1, r2, fun w w1 w2 => r3 w (by omega) w2⟩
/-- what is kept of the two that is found -/
def FA4 (x : I4) (a36 : Nat → Int32) : Nat → Int32 := upd (upd (upd (upd a36 ((0 : Int32)).toNatClampNeg x.1) ((1 : Int32)).toNatClampNeg x.2.2.1) ((2 : Int32)).toNatClampNeg x.2.1) ((3 : Int32)).toNatClampNeg x.2.2.2
theorem xu40 {U : PL → PL → Bool} {sg : PL → Int32} {wt i10 x32 i17 i18 i19 i20 i21 i22 i23 i24 i25 i26 i28 : Int32} {a29 a36 a38 a39 a40 : Nat → Int32} {l41 : Nat → Int64} {ptn : Nat} {ptc : Nat → Int32} {ogn : Nat → Nat → Nat} {ogc : Nat → Nat → Nat → Int32} {K : Int32 → Int32 → R20} {L : List PL} {a : PL} {ia : Nat} (hH : PLH i28 a38 a39 a40 sg L) (hl : L.length ≤ 420) (hxa : x32.toInt = (ia : Int)) (ha : L[ia]? = some a)
    (hI : ∀ (y : Int32) (ib : Nat) (b : PL), y.toInt = (ib : Int) → L[ib]? = some b → ((sg a).toInt = (sg b).toInt → F_x1_isUnlike x32 y i10 a29 a38 a39 l41 ogn ogc = if U a b = true then 1 else 0) ∧ (¬ (sg a).toInt = (sg b).toInt → ¬ U a b = true)) :
    ∀ (m f j : Nat) (x41 i29 : Int32), x41.toInt = (j : Int) → L.length = j + m → m < f → 0 ≤ i29.toInt → i29.toInt + m ≤ 2000000 →
    (∃ (x : I4) (s : Int32), skp wt.toInt i29.toInt (secP U a (L.drop j)) = some x ∧ f_x1_seekUnlike_j40 wt i10 a29 a36 ogn ogc i17 i18 i19 i20 i21 i22 i23 i24 i25 i26 i28 a38 a39 a40 l41 ptn ptc x32 K f x41 i29 = (1, i17, i18, i19, i20, i21, i22, i23, i24, i25, i26, i28, s, FA4 x a36, a38, a39, a40, l41, ptn, ptc)) ∨
    (skp wt.toInt i29.toInt (secP U a (L.drop j)) = none ∧ ∃ s : Int32, f_x1_seekUnlike_j40 wt i10 a29 a36 ogn ogc i17 i18 i19 i20 i21 i22 i23 i24 i25 i26 i28 a38 a39 a40 l41 ptn ptc x32 K f x41 i29 = K (x32 + Int32.ofInt 1) s ∧ s.toInt = i29.toInt + (secP U a (L.drop j)).length) := by
  have o1 := co1
  have e1' := c1
  have hh := hH.1
  have Ha := hH.2 ia a ha
  intro m
  induction m with
  | zero =>
    intro f j x41 i29 hx hm hf _ _
    obtain ⟨f, rfl⟩ : ∃ w, f = w + 1 := ⟨f - 1, by omega⟩
    have ed : L.drop j = [] := List.drop_eq_nil_of_le (by omega)
    rw [S_x1_seekUnlike_j40, if_pos (by omega), ed]
    exact Or.inr ⟨rfl, i29, rfl, by show _ = i29.toInt + ((0 : Nat) : Int); omega⟩
  | succ m ih =>
    intro f j x41 i29 hx hm hf h0' hb
    obtain ⟨f, rfl⟩ : ∃ w, f = w + 1 := ⟨f - 1, by omega⟩
    have hx1 := toInt_add hx co1 (by omega) (by omega)
    have hjl : j < L.length := by omega
    obtain ⟨b, q1, q2⟩ : ∃ b, L[j]? = some b ∧ L.drop j = b :: L.drop (j + 1) := ⟨L[j], List.getElem?_eq_getElem hjl, List.drop_eq_getElem_cons hjl⟩
    have Hb := hH.2 j b q1
    obtain ⟨I1, I2⟩ := hI x41 j b hx q1
    rw [S_x1_seekUnlike_j40, if_neg (by omega), nc hxa, nc hx, Ha.2.2, Hb.2.2, q2]
    have skip : ¬ U a b = true → (∃ (x : I4) (s : Int32), skp wt.toInt i29.toInt (secP U a (b :: L.drop (j + 1))) = some x ∧ f_x1_seekUnlike_j40 wt i10 a29 a36 ogn ogc i17 i18 i19 i20 i21 i22 i23 i24 i25 i26 i28 a38 a39 a40 l41 ptn ptc x32 K f (x41 + Int32.ofInt 1) i29 = (1, i17, i18, i19, i20, i21, i22, i23, i24, i25, i26, i28, s, FA4 x a36, a38, a39, a40, l41, ptn, ptc)) ∨
        (skp wt.toInt i29.toInt (secP U a (b :: L.drop (j + 1))) = none ∧ ∃ s : Int32, f_x1_seekUnlike_j40 wt i10 a29 a36 ogn ogc i17 i18 i19 i20 i21 i22 i23 i24 i25 i26 i28 a38 a39 a40 l41 ptn ptc x32 K f (x41 + Int32.ofInt 1) i29 = K (x32 + Int32.ofInt 1) s ∧ s.toInt = i29.toInt + (secP U a (b :: L.drop (j + 1))).length) := by
      intro z
      rw [secP_n z]
      exact ih f (j + 1) (x41 + Int32.ofInt 1) i29 (by omega) (by omega) (by omega) h0' (by omega)
    by_cases w : (sg a).toInt = (sg b).toInt
    · rw [if_neg (fun z => z w), I1 w]
      by_cases k : U a b = true
      · rw [if_pos k, if_pos (show (1 : Int32).toInt ≠ 0 by decide), secP_y k]
        by_cases k3 : i29.toInt ≠ wt.toInt
        · have e2 := toInt_add (x := i29) rfl c1 (by omega) (by omega)
          have e3 : (i29 + 1).toInt = i29.toInt + 1 := by omega
          rw [if_pos k3]
          have es : skp wt.toInt i29.toInt (i4 a b :: secP U a (L.drop (j + 1))) = skp wt.toInt (i29 + 1).toInt (secP U a (L.drop (j + 1))) := by
            rw [e3]
            show (if i29.toInt = wt.toInt then _ else _) = _
            rw [if_neg k3]
          have el : ((i4 a b :: secP U a (L.drop (j + 1))).length : Int) = (secP U a (L.drop (j + 1))).length + 1 := by show ((_ + 1 : Nat) : Int) = _; omega
          rw [es, el]
          rcases ih f (j + 1) (x41 + Int32.ofInt 1) (i29 + 1) (by omega) (by omega) (by omega) (by omega) (by omega) with r | ⟨r1, s, r2, r3⟩
          · exact Or.inl r
          · exact Or.inr ⟨r1, s, r2, by omega⟩
        · rw [if_neg k3]
          refine Or.inl ⟨i4 a b, i29, ?_, ?_⟩
          · show (if i29.toInt = wt.toInt then _ else _) = _
            rw [if_pos (by omega)]
          · rw [Ha.1, Ha.2.1, Hb.1, Hb.2.1]; rfl
      · rw [if_neg k, if_neg (show ¬ ((0 : Int32).toInt ≠ 0) by decide)]
        exact skip k
    · rw [if_pos w]
      exact skip (I2 w)
theorem xu31 {U : PL → PL → Bool} {sg : PL → Int32} {wt i10 i17 i18 i19 i20 i21 i22 i23 i24 i25 i26 i28 : Int32} {a29 a36 a38 a39 a40 : Nat → Int32} {l41 : Nat → Int64} {ptn : Nat} {ptc : Nat → Int32} {ogn : Nat → Nat → Nat} {ogc : Nat → Nat → Nat → Int32} {L : List PL} (hH : PLH i28 a38 a39 a40 sg L) (hl : L.length ≤ 420)
    (hI : ∀ (x : Int32) (ia : Nat) (a : PL), x.toInt = (ia : Int) → L[ia]? = some a → ∀ (y : Int32) (ib : Nat) (b : PL), y.toInt = (ib : Int) → L[ib]? = some b → ((sg a).toInt = (sg b).toInt → F_x1_isUnlike x y i10 a29 a38 a39 l41 ogn ogc = if U a b = true then 1 else 0) ∧ (¬ (sg a).toInt = (sg b).toInt → ¬ U a b = true)) :
    ∀ (m f h : Nat) (x32 i29 : Int32), x32.toInt = (h : Int) → L.length = h + m → m < f → 0 ≤ i29.toInt → i29.toInt + 420 * m ≤ 1000000 →
    (∃ (x : I4) (s : Int32), skp wt.toInt i29.toInt (prs U (L.drop h)) = some x ∧ f_x1_seekUnlike_j31 wt i10 a29 a36 ogn ogc i17 i18 i19 i20 i21 i22 i23 i24 i25 i26 i28 a38 a39 a40 l41 ptn ptc f x32 i29 = (1, i17, i18, i19, i20, i21, i22, i23, i24, i25, i26, i28, s, FA4 x a36, a38, a39, a40, l41, ptn, ptc)) ∨
    (skp wt.toInt i29.toInt (prs U (L.drop h)) = none ∧ ∃ s : Int32, f_x1_seekUnlike_j31 wt i10 a29 a36 ogn ogc i17 i18 i19 i20 i21 i22 i23 i24 i25 i26 i28 a38 a39 a40 l41 ptn ptc f x32 i29 = (0, i17, i18, i19, i20, i21, i22, i23, i24, i25, i26, i28, s, a36, a38, a39, a40, l41, ptn, ptc) ∧ s.toInt = i29.toInt + (prs U (L.drop h)).length) := by
  have o1 := co1
  have hh := hH.1
  intro m
  induction m with
  | zero =>
    intro f h x32 i29 hx hm hf _ _
    obtain ⟨f, rfl⟩ : ∃ w, f = w + 1 := ⟨f - 1, by omega⟩
    have ed : L.drop h = [] := List.drop_eq_nil_of_le (by omega)
    rw [S_x1_seekUnlike_j31, if_pos (by omega), ed]
    exact Or.inr ⟨rfl, i29, rfl, by show _ = i29.toInt + ((0 : Nat) : Int); omega⟩
  | succ m ih =>
    intro f h x32 i29 hx hm hf h0' hb
    obtain ⟨f, rfl⟩ : ∃ w, f = w + 1 := ⟨f - 1, by omega⟩
    have hx1 := toInt_add hx co1 (by omega) (by omega)
    have hs := suc_of hx (by omega)
    have hhl : h < L.length := by omega
    obtain ⟨a, q1, q2⟩ : ∃ a, L[h]? = some a ∧ L.drop h = a :: L.drop (h + 1) := ⟨L[h], List.getElem?_eq_getElem hhl, List.drop_eq_getElem_cons hhl⟩
    rw [S_x1_seekUnlike_j31, if_neg (by omega), q2]
    have S4 := xu40 (U := U) (sg := sg) (wt := wt) (x32 := x32) (i17 := i17) (i18 := i18) (i19 := i19) (i20 := i20) (i21 := i21) (i22 := i22) (i23 := i23) (i24 := i24) (i25 := i25) (i26 := i26) (a36 := a36) (ptn := ptn) (ptc := ptc) (K := f_x1_seekUnlike_j31 wt i10 a29 a36 ogn ogc i17 i18 i19 i20 i21 i22 i23 i24 i25 i26 i28 a38 a39 a40 l41 ptn ptc f) hH hl hx q1 (hI x32 h a hx q1) m 420 (h + 1) (x32 + 1) i29 (by omega) (by omega) (by omega) h0' (by omega)
    show (∃ (x : I4) (s : Int32), skp wt.toInt i29.toInt (secP U a (L.drop (h + 1)) ++ prs U (L.drop (h + 1))) = some x ∧ _) ∨ (skp wt.toInt i29.toInt (secP U a (L.drop (h + 1)) ++ prs U (L.drop (h + 1))) = none ∧ ∃ s : Int32, _ ∧ s.toInt = i29.toInt + ((secP U a (L.drop (h + 1)) ++ prs U (L.drop (h + 1))).length : Int))
    have hle := secP_len (U := U) (a := a) (L.drop (h + 1))
    have hdl : (L.drop (h + 1)).length ≤ 420 := by rw [List.length_drop]; omega
    rcases S4 with ⟨x, s, r1, r2⟩ | ⟨r1, s, r2, r3⟩
    · rw [r2]
      exact Or.inl ⟨x, s, skp_app1 _ _ _ _ r1, rfl⟩
    · rw [r2, skp_app2 _ _ _ r1, ← r3]
      have el : ((secP U a (L.drop (h + 1)) ++ prs U (L.drop (h + 1))).length : Int) = (secP U a (L.drop (h + 1))).length + (prs U (L.drop (h + 1))).length := by rw [List.length_append]; omega
      rw [el]
      rcases ih f (h + 1) (x32 + Int32.ofInt 1) s (by omega) (by omega) (by omega) (by omega) (by omega) with r | ⟨z1, s2, z2, z3⟩
      · exact Or.inl r
      · exact Or.inr ⟨z1, s2, z2, by omega⟩
end XUN
