/-! COST: all that is FIXED -/
section RKN
variable {v day i3 i6 i9 cu : Int32} {a7 a8 a13 a18 a19 a20 a21 a22 a23 a24 a25 a26 b2 b3 b4 b8 b15 b16 b17 b18 b19 b20 b21 b22 b23 b24 b25 b26 b5 : Nat → Int32} {r9n rtn : Nat → Nat} {r9c rtc : Nat → Nat → Int32} {c : Nat}
variable {i10 i30 : Int32} {a29 a43 a44 a45 a47 a48 a49 b28 b29 b33 b34 b35 b36 b37 b38 b39 b40 b41 b42 b55 b56 b57 b58 b59 b60 : Nat → Int32} {l46 : Nat → Int64} {ptn : Nat} {ptc : Nat → Int32} {og : Nat → Nat → Int32} {ogn : Nat → Nat → Nat} {ogc : Nat → Nat → Nat → Int32}
/-- each SLOT turns a TOKEN of its RENDERING, or is ADDED -/
def TRN (i10 : Int32) (ogn : Nat → Nat → Nat) (ogc : Nat → Nat → Nat → Int32) : Prop := ∀ r : Nat, (r : Int) < i10.toInt → ∀ i, i < ogn 4 r → (ogc 5 r i).toInt = 8 ∨ (ogc 5 r i).toInt < (ogn 3 r : Int)
theorem fxb_of {x : Int32} {w : Nat} (hF : FXD i10 a29 b34 b35) (hx : x.toInt = (w : Int)) (hw : w < 60) : (F_x8_fixedAt x i10 a29 = 0 ∧ (a29 w).toInt = -1) ∨ ∃ r : Nat, (r : Int) < i10.toInt ∧ F_x8_fixedAt x i10 a29 = r + 1 ∧ (a29 w).toInt = (r : Int) := by
  rw [E_x8_fixedAt, fn_of hx hw]
  rcases hF w hw with ⟨h1, _⟩ | ⟨r, r1, r2, r3, _, _⟩
  · rcases xat (u := a29 w) (i10 := i10) with ⟨_, e⟩ | ⟨q, q1, _, _⟩
    · rw [e, if_pos rfl]; exact Or.inl ⟨rfl, h1⟩
    · omega
  · rcases xat (u := a29 w) (i10 := i10) with ⟨g, _⟩ | ⟨q, q1, q2, e⟩
    · exact absurd ⟨by omega, by omega⟩ g
    · rw [e, if_neg (Nat.succ_ne_zero q), Nat.add_sub_cancel]
      exact Or.inr ⟨r, r1, by omega, r2⟩
abbrev R14o := Int32 × Int32 × Int32 × Int32 × Int32 × Int32 × Int32 × Int32 × Int32 × Int32 × (Nat → Int32) × (Nat → Int32) × Nat × (Nat → Int32)
def NQ (a b : Nat → Int32) : Prop := ∀ q, q < 24 → (NZ a q ↔ NZ b q)
theorem vl_both (hv : 0 ≤ i3.toInt ∧ i3.toInt ≤ 60) (h6 : 0 ≤ i6.toInt ∧ i6.toInt ≤ 6) (h9 : 0 ≤ i9.toInt ∧ i9.toInt ≤ 20) (hV : VRS i3 a7 b2) (hM : MES i3 a8 b3) (hP : PPL i6 a13 b8) (hL : LAW i9 a18 a19 a20 a21 a22 a23 a24 a25 b15 b16 b17 b18 b19 b20 b21 b22) (hK : KI i9 b18 b19 b20 b21 b22) (hR : RWS r9n r9c b4 b5) (hC : RCC i9 a21 a26 rtn rtc b23 b24 b25 b26) (hN : RNC i10 og ogn ogc b33 b34 b36 b37 b38 b39 b40 b41 b42) (hF : FXD i10 a29 b34 b35) (h10 : 0 ≤ i10.toInt ∧ i10.toInt ≤ 200) (hT : TRN i10 ogn ogc) (hO : RO i30 a43 a44 a45 i30 b55 b56 b57) : ∀ (m f g v : Nat) (x i17 i18 i19 i20 i21 i22 i23 i24 i25 i26 : Int32) (a47 a48 : Nat → Int32) (ptn : Nat) (ptc : Nat → Int32) (b28 b29 b59 b60 : Nat → Int32) (n : Int), x.toInt = (v : Int) → i3.toInt = (v : Int) + m → m < f → m < g → 0 ≤ n → n + 12 * m ≤ 1000 → PQ n a47 b59 → NQ a48 b60 →
    ∃ (j17 j18 j19 j20 j21 j22 j23 j24 j25 j26 : Int32) (a1 a2 : Nat → Int32) (qtn : Nat) (qtc : Nat → Int32) (d28 d29 c1 c2 : Nat → Int32), f_x0_reckon_j10 day i3 i6 i9 i10 i30 a7 a8 a13 a18 a19 a20 a21 a22 a23 a24 a25 a26 a29 a43 a44 a45 r9n r9c ogn ogc rtn rtc f x i17 i18 i19 i20 i21 i22 i23 i24 i25 i26 a47 a48 ptn ptc = (j17, j18, j19, j20, j21, j22, j23, j24, j25, j26, a1, a2, qtn, qtc) ∧ f_m12_prices_j8 day i3 i6 i9 i10 i30 b2 b3 b4 b8 b15 b16 b17 b18 b19 b20 b21 b22 b23 b24 b25 b26 b34 b35 b38 b39 b40 b41 b42 b55 b56 b57 g x b28 b29 b59 b60 = (d28, d29, c1, c2) ∧ PQ (n + 12 * m) a1 c1 ∧ NQ a2 c2 := by
  have o1 := co1
  intro m
  induction m with
  | zero =>
    intro f g v x i17 i18 i19 i20 i21 i22 i23 i24 i25 i26 a47 a48 ptn ptc b28 b29 b59 b60 n hx hm hf hg hn hn2 hQ hZ
    obtain ⟨f, rfl⟩ : ∃ w, f = w + 1 := ⟨f - 1, by omega⟩
    obtain ⟨g, rfl⟩ : ∃ w, g = w + 1 := ⟨g - 1, by omega⟩
    rw [S_x0_reckon_j10, S_m12_prices_j8, if_pos (show x.toInt ≥ (F_x9_size i3).toInt by show x.toInt ≥ i3.toInt; omega), if_pos (show x.toInt ≥ i3.toInt by omega)]
    exact ⟨i17, i18, i19, i20, i21, i22, i23, i24, i25, i26, a47, a48, ptn, ptc, b28, b29, b59, b60, rfl, rfl, PQ_mono hQ (by omega), hZ⟩
  | succ m ih =>
    intro f g v x i17 i18 i19 i20 i21 i22 i23 i24 i25 i26 a47 a48 ptn ptc b28 b29 b59 b60 n hx hm hf hg hn hn2 hQ hZ
    obtain ⟨f, rfl⟩ : ∃ w, f = w + 1 := ⟨f - 1, by omega⟩
    obtain ⟨g, rfl⟩ : ∃ w, g = w + 1 := ⟨g - 1, by omega⟩
    have hx1 := toInt_add hx co1 (by omega) (by omega)
    rw [S_x0_reckon_j10, S_m12_prices_j8, if_neg (show ¬ x.toInt ≥ (F_x9_size i3).toInt by show ¬ x.toInt ≥ i3.toInt; omega), if_neg (show ¬ x.toInt ≥ i3.toInt by omega), fo_of hx (by omega) h10 hF]
    rcases fxb_of hF hx (by omega) with ⟨k1, k2⟩ | ⟨r, k0, k1, k2⟩
    · rw [if_pos k1, if_neg (fun z => z k2)]
      obtain ⟨j17, j18, j19, j20, j21, j22, j23, j24, j25, j26, a1, a2, qtn, qtc, d28, d29, c1', c2, r1, r2, r3, r4⟩ := ih f g (v + 1) (x + Int32.ofInt 1) i17 i18 i19 i20 i21 i22 i23 i24 i25 i26 a47 a48 ptn ptc b28 b29 b59 b60 n (by omega) (by omega) (by omega) (by omega) hn (by omega) hQ hZ
      exact ⟨j17, j18, j19, j20, j21, j22, j23, j24, j25, j26, a1, a2, qtn, qtc, d28, d29, c1', c2, r1, r2, PQ_mono r3 (by omega), r4⟩
    · obtain ⟨_, ⟨n1, n8, t1⟩, ⟨s1, s2, s3, s4⟩⟩ := hN r k0
      have e12 := toInt_mul sc12 k2 rfl (by omega) (by omega)
      rw [if_neg (show ¬ F_x8_fixedAt x i10 a29 = 0 by rw [k1]; exact Nat.succ_ne_zero r), if_pos (show (a29 v).toInt ≠ -1 by omega), show F_x8_fixedAt x i10 a29 - 1 = r by rw [k1]; rfl, show F_x7_tokenRow r ogn ogc = (ogn 3 r, ogc 3 r) from rfl]
      dsimp only
      -- the class
      obtain ⟨z20, q2, ea⟩ := aim_of (u0 := x) (u1 := day) hx (by omega) hv h6 h9 hV hM hP hL hK hR
      obtain ⟨y17, y18, y19, y20, y21, y22, y23, y24, y25, y26, A2, qn, qc, x1, x2⟩ := xb20 (v := x) (day := day) (i6 := i6) (n2 := ogn 3 r) (f2 := ogc 3 r) (z20 := z20) (z21 := F_m12_copyOf x day i6 i9 b2 b4 b8 b15 b16 b17 b18 b19 b20 b21) (b2 := b2) (b3 := b3) (b4 := b4) (b8 := b8) n8 h9 hL hC hO q2 i9.toInt.toNat 22 0 0 i25 i26 a48 ptn ptc c0 (by omega) (by omega)
      have eB : F_x0_barByClauses x (ogn 3 r) (ogc 3 r) day i3 i6 i9 i25 i26 i30 a7 a8 a13 a18 a19 a20 a21 a22 a23 a24 a25 a26 a43 a44 a45 a48 r9n r9c rtn rtc ptn ptc = (y17, y18, y19, y20, y21, y22, y23, y24, y25, y26, A2, qn, qc) := by
        rw [E_x0_barByClauses, ea]
        exact x1
      rw [eB]
      dsimp only
      -- the reference
      have htok : ∀ (t : Nat) (y : Int32), y.toInt = (t : Int) → t < ogn 3 r → b39 (((8 : Int32) * (a29 v)) + y).toNatClampNeg = ogc 3 r t := by
        intro t y hy ht
        have m1 := toInt_mul sc8 k2 rfl (by omega) (by omega)
        have m2 := toInt_add m1 hy (by omega) (by omega)
        rw [nc (p := 8 * r + t) (by omega)]
        exact (t1 t ht).symm
      obtain ⟨e28, e29, B2, m1, m2⟩ := mb1 (v := x) (day := day) (i6 := i6) (i9 := i9) (b2 := b2) (b3 := b3) (b4 := b4) (b8 := b8) (p1 := a29 v) (n := ogn 3 r) (f32 := ogc 3 r) (b38 := b38) (b39 := b39) h9 hL hC hO (by rw [nc k2]; exact n1) n8 htok (16 * i9.toInt.toNat) 4001 0 0 b28 b29 b60 c0 (by omega) (by omega)
      have eM : F_m12_bars x (a29 v) day i6 i9 i30 b2 b3 b4 b8 b15 b16 b17 b18 b19 b20 b21 b22 b23 b24 b25 b26 b28 b29 b38 b39 b55 b56 b57 b60 = (e28, e29, B2) := by
        rw [E_m12_bars]; exact m1
      rw [eM]
      dsimp only
      obtain ⟨A1, B1, p1, p2, p3⟩ := ps_loop (r := r) (p0 := a29 v) (x9 := x) (i10 := i10) (b28 := e28) (b29 := e29) (b60 := B2) (R := f_m12_prices_j8 day i3 i6 i9 i10 i30 b2 b3 b4 b8 b15 b16 b17 b18 b19 b20 b21 b22 b23 b24 b25 b26 b34 b35 b38 b39 b40 b41 b42 b55 b56 b57 g) hO hN h10.2 k2 k0 (hT r k0) rfl (ogn 4 r) 202 4001 0 0 ((12 : Int32) * (a29 v)) a47 b59 n c0 (by omega) (by omega) (by omega) (by omega) hn (by omega) hQ
      rw [E_x0_addPrices, show F_x7_tokenRow r ogn ogc = (ogn 3 r, ogc 3 r) from rfl]
      dsimp only
      rw [p1, p2]
      have ihx := ih f g (v + 1) (x + Int32.ofInt 1) y17 y18 y19 y20 y21 y22 y23 y24 y25 y26 A1 A2 qn qc e28 e29 B1 B2 (n + 12) (by omega) (by omega) (by omega) (by omega) (by omega) (by omega) (PQ_mono p3 (by omega))
      have hz := ihx (by
        intro q hq
        rw [x2 q, m2 q, hZ q hq])
      obtain ⟨j17, j18, j19, j20, j21, j22, j23, j24, j25, j26, a1, a2, qtn, qtc, d28, d29, c1', c2, r1, r2, r3, r4⟩ := hz
      exact ⟨j17, j18, j19, j20, j21, j22, j23, j24, j25, j26, a1, a2, qtn, qtc, d28, d29, c1', c2, r1, r2, PQ_mono r3 (by omega), r4⟩
theorem nar0 : (vp_nar .boolean (0 : Int32)).toInt = 0 := by decide
/-- both are set to 0 first -/
theorem rs_both {i17 i18 i19 i20 i21 i22 i23 i24 i25 i26 : Int32} : ∀ (m f g X : Nat) (x : Int32) (a47 a48 b59 b60 : Nat → Int32), x.toInt = (X : Int) → 24 = X + m → m < f → m < g → (∀ q, q < X → (a47 q = b59 q ∧ (a47 q).toInt = 0) ∧ ¬ NZ a48 q ∧ ¬ NZ b60 q) →
    ∃ a1 a2 c1 c2 : Nat → Int32, f_x0_reckon_j1 day i3 i6 i9 i10 i17 i18 i19 i20 i21 i22 i23 i24 i25 i26 i30 a7 a8 a13 a18 a19 a20 a21 a22 a23 a24 a25 a26 a29 a43 a44 a45 r9n r9c ogn ogc rtn rtc ptn ptc f x a47 a48 = f_x0_reckon_j1 day i3 i6 i9 i10 i17 i18 i19 i20 i21 i22 i23 i24 i25 i26 i30 a7 a8 a13 a18 a19 a20 a21 a22 a23 a24 a25 a26 a29 a43 a44 a45 r9n r9c ogn ogc rtn rtc ptn ptc (f - m) 24 a1 a2 ∧ f_m12_prices_j1 day i3 i6 i9 i10 i30 b2 b3 b4 b8 b15 b16 b17 b18 b19 b20 b21 b22 b23 b24 b25 b26 b28 b29 b34 b35 b38 b39 b40 b41 b42 b55 b56 b57 g x b59 b60 = f_m12_prices_j1 day i3 i6 i9 i10 i30 b2 b3 b4 b8 b15 b16 b17 b18 b19 b20 b21 b22 b23 b24 b25 b26 b28 b29 b34 b35 b38 b39 b40 b41 b42 b55 b56 b57 (g - m) 24 c1 c2 ∧ ∀ q, q < 24 → (a1 q = c1 q ∧ (a1 q).toInt = 0) ∧ ¬ NZ a2 q ∧ ¬ NZ c2 q := by
  have o1 := co1
  intro m
  induction m with
  | zero =>
    intro f g X x a47 a48 b59 b60 hx hm hf hg h
    have ex : x = 24 := eq_of_toInt (by rw [hx, show (24 : Int32).toInt = 24 by decide]; omega)
    rw [ex]
    exact ⟨a47, a48, b59, b60, rfl, rfl, fun q hq => h q (by omega)⟩
  | succ m ih =>
    intro f g X x a47 a48 b59 b60 hx hm hf hg h
    obtain ⟨f, rfl⟩ : ∃ w, f = w + 1 := ⟨f - 1, by omega⟩
    obtain ⟨g, rfl⟩ : ∃ w, g = w + 1 := ⟨g - 1, by omega⟩
    have hx1 := toInt_add hx co1 (by omega) (by omega)
    rw [S_x0_reckon_j1, S_m12_prices_j1, if_neg (show ¬ x.toInt ≥ 24 by omega), if_neg (show ¬ x.toInt ≥ 24 by omega), nc hx]
    obtain ⟨a1, a2, c1, c2, r1, r2, r3⟩ := ih f g (X + 1) (x + Int32.ofInt 1) (upd a47 X 0) (upd a48 X (vp_nar .boolean (0 : Int32))) (upd b59 X 0) (upd b60 X (vp_nar .boolean (0 : Int32))) (by omega) (by omega) (by omega) (by omega) (fun q hq => by
      unfold NZ upd
      by_cases e : q = X
      · rw [if_pos e, if_pos e, if_pos e, if_pos e]; exact ⟨⟨rfl, c0⟩, fun z => z nar0, fun z => z nar0⟩
      · rw [if_neg e, if_neg e, if_neg e, if_neg e]; exact h q (by omega))
    rw [show f + 1 - (m + 1) = f - m by omega, show g + 1 - (m + 1) = g - m by omega]
    exact ⟨a1, a2, c1, c2, r1, r2, r3⟩
end RKN
/-! rows of OPTIONS -/
def dg4 (p k : Nat) : Nat := p / 4 ^ k % 4
theorem c4o : (4 : Int32).toInt = 4 := by decide
theorem dm4 {x : Int32} {p : Nat} (hx : x.toInt = (p : Int)) : (x / (4 : Int32)).toInt = ((p / 4 : Nat) : Int) ∧ (x - x / (4 : Int32) * (4 : Int32)).toInt = ((p % 4 : Nat) : Int) := by
  have hb := Int32.toInt_lt x
  have e1 : (x / (4 : Int32)).toInt = ((p / 4 : Nat) : Int) := by
    have e := Int32.toInt_div_of_ne_right x (4 : Int32) (by decide)
    rw [e, hx, c4o]; rfl
  have e2 : (x / (4 : Int32) * (4 : Int32)).toInt = ((p / 4 : Nat) : Int) * 4 := toInt_mul e1 c4o rfl (by omega) (by omega)
  have e3 := toInt_sub hx e2 (by omega) (by omega)
  exact ⟨e1, by omega⟩
theorem dig4_loop {k : Nat} {K : Int32} (hK : K.toInt = (k : Int)) (h6 : k ≤ 6) : ∀ (m f j p : Nat) (x y : Int32), y.toInt = (j : Int) → k = j + m → m < f → x.toInt = (p : Int) → (f_m12_digit_j1 K (4 : Int32) f x y).toInt = ((p / 4 ^ m % 4 : Nat) : Int) := by
  have o1 := co1
  intro m
  induction m with
  | zero =>
    intro f j p x y hy hk hf hx
    obtain ⟨f, rfl⟩ : ∃ w, f = w + 1 := ⟨f - 1, by omega⟩
    rw [S_m12_digit_j1, if_pos (show y.toInt ≥ K.toInt by omega), Nat.pow_zero, Nat.div_one]
    exact (dm4 hx).2
  | succ m ih =>
    intro f j p x y hy hk hf hx
    obtain ⟨f, rfl⟩ : ∃ w, f = w + 1 := ⟨f - 1, by omega⟩
    have hz := toInt_add hy co1 (by omega) (by omega)
    rw [S_m12_digit_j1, if_neg (show ¬ y.toInt ≥ K.toInt by omega), ih f (j + 1) (p / 4) _ _ (by omega) (by omega) (by omega) (dm4 hx).1, Nat.pow_succ, Nat.mul_comm, Nat.div_div_eq_div_mul]
theorem dig4_of {k p : Nat} {K x : Int32} (hK : K.toInt = (k : Int)) (h6 : k ≤ 6) (hx : x.toInt = (p : Int)) : (F_m12_digit x K (4 : Int32)).toInt = (dg4 p k : Int) := by
  rw [E_m12_digit]
  exact dig4_loop hK h6 k 7 0 p x 0 c0 (by omega) (by omega) hx
theorem dg4_lt (p k : Nat) : dg4 p k < 4 := Nat.mod_lt _ (by decide)
theorem sh4 : ∀ N : Fin 7, ((1 : Int32) <<< (((2 : Int32) * Int32.ofInt (N.1 : Int)) &&& 31)).toInt = ((4 ^ N.1 : Nat) : Int) := by decide +kernel
theorem sh4_of {i30 : Int32} {N : Nat} (h : i30.toInt = (N : Int)) (hN : N ≤ 6) : ((1 : Int32) <<< (((2 : Int32) * i30) &&& 31)).toInt = ((4 ^ N : Nat) : Int) := by
  have e : i30 = Int32.ofInt (N : Int) := by rw [← h, Int32.ofInt_toInt]
  rw [e]
  exact sh4 ⟨N, by omega⟩
section ROWS
variable {i10 i30 : Int32} {a29 a43 a44 a45 a47 a48 a49 b28 b29 b33 b34 b35 b36 b37 b38 b39 b40 b41 b42 b55 b56 b57 b58 b59 b60 : Nat → Int32} {l46 : Nat → Int64} {ptn : Nat} {ptc : Nat → Int32} {og : Nat → Nat → Int32} {ogn : Nat → Nat → Nat} {ogc : Nat → Nat → Nat → Int32}
/-- the number of a row of OPTIONS -/
def CH (a44 : Nat → Int32) (N p : Nat) : Prop := p < 4 ^ N ∧ ∀ j, j < N → (dg4 p j : Int) < (a44 j).toInt
theorem rr_loop {N p : Nat} (hN : i30.toInt = (N : Int)) (h6 : N ≤ 6) : ∀ (m f k : Nat) (x4 x6 : Int32) (a49 : Nat → Int32), x6.toInt = (k : Int) → N = k + m → m < f → x4.toInt = ((p / 4 ^ k : Nat) : Int) → (∀ j, j < k → a49 j = Int32.ofNat (dg4 p j) ∧ (dg4 p j : Int) < (a44 j).toInt) →
    (CH a44 N p ∧ ∃ a' : Nat → Int32, f_x0_readRow_j3 i30 a44 f x4 x6 a49 = (1, a') ∧ ∀ j, j < N → a' j = Int32.ofNat (dg4 p j)) ∨ (¬ CH a44 N p ∧ (f_x0_readRow_j3 i30 a44 f x4 x6 a49).1 = 0) := by
  have o1 := co1
  have hp4 : ∀ k, 0 < 4 ^ k := fun k => Nat.pow_pos (by decide)
  intro m
  induction m with
  | zero =>
    intro f k x4 x6 a49 hx hm hf h4 h
    obtain ⟨f, rfl⟩ : ∃ w, f = w + 1 := ⟨f - 1, by omega⟩
    have ek : k = N := by omega
    subst ek
    rw [S_x0_readRow_j3, if_pos (show x6.toInt ≥ i30.toInt by omega)]
    by_cases w : x4.toInt ≠ 0
    · rw [if_pos w]
      refine Or.inr ⟨fun z => ?_, rfl⟩
      have : p / 4 ^ k = 0 := Nat.div_eq_of_lt z.1
      omega
    · rw [if_neg w]
      have e0 : p / 4 ^ k = 0 := by omega
      have hlt : p < 4 ^ k := by
        rcases (Nat.div_eq_zero_iff).mp e0 with z | z
        · have := hp4 k; omega
        · exact z
      exact Or.inl ⟨⟨hlt, fun j hj => (h j hj).2⟩, a49, rfl, fun j hj => (h j hj).1⟩
  | succ m ih =>
    intro f k x4 x6 a49 hx hm hf h4 h
    obtain ⟨f, rfl⟩ : ∃ w, f = w + 1 := ⟨f - 1, by omega⟩
    have hx1 := toInt_add hx co1 (by omega) (by omega)
    obtain ⟨d1, d2⟩ := dm4 h4
    have ed : x4 - x4 / (4 : Int32) * (4 : Int32) = Int32.ofNat (dg4 p k) := oN d2
    have edt : (Int32.ofNat (dg4 p k)).toInt = (dg4 p k : Int) := nI_toInt (by have := dg4_lt p k; omega)
    rw [S_x0_readRow_j3, if_neg (show ¬ x6.toInt ≥ i30.toInt by omega), nc hx, upd_s, ed, edt]
    by_cases w : (dg4 p k : Int) < (a44 k).toInt
    · rw [if_pos w]
      refine ih f (k + 1) (x4 / (4 : Int32)) (x6 + Int32.ofInt 1) (upd a49 k (Int32.ofNat (dg4 p k))) (by omega) (by omega) (by omega) (by rw [d1, Nat.pow_succ, Nat.div_div_eq_div_mul]) (fun j hj => ?_)
      by_cases e : j = k
      · rw [e, upd_s]; exact ⟨rfl, w⟩
      · unfold upd; rw [if_neg e]; exact h j (by omega)
    · rw [if_neg w]
      exact Or.inr ⟨fun z => w (z.2 k (by omega)), rfl⟩
theorem rr_of {N : Nat} {u0 : Int32} (hN : i30.toInt = (N : Int)) (h6 : N ≤ 6) :
    (∃ p : Nat, u0.toInt = (p : Int) ∧ CH a44 N p ∧ ∃ a' : Nat → Int32, F_x0_readRow u0 i30 a44 a49 = (1, a') ∧ ∀ j, j < N → a' j = Int32.ofNat (dg4 p j)) ∨ ((∀ p : Nat, u0.toInt = (p : Int) → ¬ CH a44 N p) ∧ (F_x0_readRow u0 i30 a44 a49).1 = 0) := by
  rw [E_x0_readRow]
  by_cases w : u0.toInt ≥ 0
  · obtain ⟨p, hp⟩ : ∃ p : Nat, u0.toInt = (p : Int) := ⟨u0.toInt.toNat, by omega⟩
    rw [if_pos w]
    rcases rr_loop (a44 := a44) (p := p) hN h6 N 7 0 u0 0 a49 c0 (by omega) (by omega) (by rw [hp, Nat.pow_zero, Nat.div_one]) (fun j hj => absurd hj (by omega)) with ⟨h1, h2⟩ | ⟨h1, h2⟩
    · exact Or.inl ⟨p, hp, h1, h2⟩
    · refine Or.inr ⟨fun q hq => ?_, h2⟩
      have e : q = p := by omega
      rw [e]; exact h1
  · rw [if_neg w]
    exact Or.inr ⟨fun q hq => absurd hq (by omega), rfl⟩
theorem ic_loop {N p : Nat} {u0 : Int32} (hN : i30.toInt = (N : Int)) (h6 : N ≤ 6) (hu : u0.toInt = (p : Int)) (hs : ∀ j, j < N → a44 j = b56 j) : ∀ (m f k : Nat) (x : Int32), x.toInt = (k : Int) → N = k + m → m < f → (∀ j, j < k → (dg4 p j : Int) < (a44 j).toInt) →
    f_m12_isChoice_j10 u0 i30 b56 f x = 1 ∧ (∀ j, j < N → (dg4 p j : Int) < (a44 j).toInt) ∨ f_m12_isChoice_j10 u0 i30 b56 f x = 0 ∧ ¬ (∀ j, j < N → (dg4 p j : Int) < (a44 j).toInt) := by
  have o1 := co1
  intro m
  induction m with
  | zero =>
    intro f k x hx hm hf h
    obtain ⟨f, rfl⟩ : ∃ w, f = w + 1 := ⟨f - 1, by omega⟩
    rw [S_m12_isChoice_j10, if_pos (show x.toInt ≥ i30.toInt by omega)]
    exact Or.inl ⟨rfl, fun j hj => h j (by omega)⟩
  | succ m ih =>
    intro f k x hx hm hf h
    obtain ⟨f, rfl⟩ : ∃ w, f = w + 1 := ⟨f - 1, by omega⟩
    have hx1 := toInt_add hx co1 (by omega) (by omega)
    rw [S_m12_isChoice_j10, if_neg (show ¬ x.toInt ≥ i30.toInt by omega), dig4_of hx (by omega) hu, nc hx, ← hs k (by omega)]
    by_cases w : (dg4 p k : Int) < (a44 k).toInt
    · rw [if_pos w]
      refine ih f (k + 1) (x + Int32.ofInt 1) (by omega) (by omega) (by omega) (fun j hj => ?_)
      by_cases e : j = k
      · rw [e]; exact w
      · exact h j (by omega)
    · rw [if_neg w]
      exact Or.inr ⟨rfl, fun z => w (z k (by omega))⟩
theorem ic_of {N : Nat} {u0 : Int32} (hN : i30.toInt = (N : Int)) (h6 : N ≤ 6) (hs : ∀ j, j < N → a44 j = b56 j) :
    (∃ p : Nat, u0.toInt = (p : Int) ∧ CH a44 N p ∧ F_m12_isChoice u0 i30 b56 = 1) ∨ ((∀ p : Nat, u0.toInt = (p : Int) → ¬ CH a44 N p) ∧ F_m12_isChoice u0 i30 b56 = 0) := by
  have hp4 : 0 < 4 ^ N := Nat.pow_pos (by decide)
  have hb4 : 4 ^ N ≤ 4 ^ 6 := Nat.pow_le_pow_right (by decide) h6
  have h46 : (4 : Nat) ^ 6 = 4096 := by decide
  have es := sh4_of hN h6
  have es1 := toInt_sub es c1 (by omega) (by omega)
  rw [E_m12_isChoice]
  rcases mlie (u := u0) c0 es1 with ⟨g1, g⟩ | ⟨g1, g⟩
  · obtain ⟨p, hp⟩ : ∃ p : Nat, u0.toInt = (p : Int) := ⟨u0.toInt.toNat, by omega⟩
    rw [g, if_pos (show (1 : Int32).toInt ≠ 0 by decide)]
    rcases ic_loop (a44 := a44) (p := p) hN h6 hp hs N 7 0 0 c0 (by omega) (by omega) (fun j hj => absurd hj (by omega)) with ⟨h1, h2⟩ | ⟨h1, h2⟩
    · exact Or.inl ⟨p, hp, ⟨by omega, h2⟩, h1⟩
    · refine Or.inr ⟨fun q hq z => h2 ?_, h1⟩
      have e : q = p := by omega
      rw [e] at z; exact z.2
  · rw [g, if_neg (show ¬ ((0 : Int32).toInt ≠ 0) by decide)]
    exact Or.inr ⟨fun q hq z => g1 ⟨by omega, by have := z.1; omega⟩, rfl⟩
/-- the OPTION at the k-th place may stand with those ahead of it -/
def MSP (a43 a45 a48 : Nat → Int32) (l46 : Nat → Int64) (d : Nat → Nat) (k : Nat) : Prop := ¬ NZ a48 (4 * k + d k) ∧ ∀ l, l < k → ¬ (bitL (l46 (a43 k).toInt.toNat) (a43 l).toInt.toNat = true ∧ (a45 (4 * k + d k)).toInt = (a45 (4 * l + d l)).toInt)
theorem ms_loop {u0 : Int32} {d : Nat → Nat} {k N : Nat} (hk : u0.toInt = (k : Int)) (hkN : k < N) (h6 : N ≤ 6) (hd : ∀ j, j < N → d j < 4) (hrow : ∀ j, j ≤ k → a49 j = Int32.ofNat (d j)) (hsg : ∀ j, j < N → 0 ≤ (a43 j).toInt ∧ (a43 j).toInt < 40) : ∀ (m f l : Nat) (x : Int32), x.toInt = (l : Int) → k = l + m → m < f → (∀ j, j < l → ¬ (bitL (l46 (a43 k).toInt.toNat) (a43 j).toInt.toNat = true ∧ (a45 (4 * k + d k)).toInt = (a45 (4 * j + d j)).toInt)) →
    (f_x0_mayStand_j7 u0 a43 a45 a49 l46 f x = 1 ∧ ∀ j, j < k → ¬ (bitL (l46 (a43 k).toInt.toNat) (a43 j).toInt.toNat = true ∧ (a45 (4 * k + d k)).toInt = (a45 (4 * j + d j)).toInt)) ∨ (f_x0_mayStand_j7 u0 a43 a45 a49 l46 f x = 0 ∧ ¬ ∀ j, j < k → ¬ (bitL (l46 (a43 k).toInt.toNat) (a43 j).toInt.toNat = true ∧ (a45 (4 * k + d k)).toInt = (a45 (4 * j + d j)).toInt)) := by
  have o1 := co1
  have ch : ∀ (x : Int32) (j : Nat), x.toInt = (j : Int) → j ≤ k → F_x0_chosen x a45 a49 = a45 (4 * j + d j) := by
    intro x j hx hj
    have h4 := hd j (by omega)
    have e1 : (Int32.ofNat (d j)).toInt = (d j : Int) := nI_toInt (by omega)
    rw [E_x0_chosen, nc hx, hrow j hj, (o_ix hx e1 (by omega) (by omega)).1]
  intro m
  induction m with
  | zero =>
    intro f l x hx hm hf h
    obtain ⟨f, rfl⟩ : ∃ w, f = w + 1 := ⟨f - 1, by omega⟩
    rw [S_x0_mayStand_j7, if_pos (show x.toInt ≥ u0.toInt by omega)]
    exact Or.inl ⟨rfl, fun j hj => h j (by omega)⟩
  | succ m ih =>
    intro f l x hx hm hf h
    obtain ⟨f, rfl⟩ : ∃ w, f = w + 1 := ⟨f - 1, by omega⟩
    have hx1 := toInt_add hx co1 (by omega) (by omega)
    have ap := F_arePart (a0 := a43 k) (a1 := a43 l) (l46 := l46) (hsg l (by omega)).1 (by have := (hsg l (by omega)).2; omega)
    rw [S_x0_mayStand_j7, if_neg (show ¬ x.toInt ≥ u0.toInt by omega), nc hk, nc hx, ap, ch u0 k hk (Nat.le_refl _), ch x l hx (by omega)]
    have next : ¬ (bitL (l46 (a43 k).toInt.toNat) (a43 l).toInt.toNat = true ∧ (a45 (4 * k + d k)).toInt = (a45 (4 * l + d l)).toInt) → (f_x0_mayStand_j7 u0 a43 a45 a49 l46 f (x + Int32.ofInt 1) = 1 ∧ ∀ j, j < k → ¬ (bitL (l46 (a43 k).toInt.toNat) (a43 j).toInt.toNat = true ∧ (a45 (4 * k + d k)).toInt = (a45 (4 * j + d j)).toInt)) ∨ (f_x0_mayStand_j7 u0 a43 a45 a49 l46 f (x + Int32.ofInt 1) = 0 ∧ ¬ ∀ j, j < k → ¬ (bitL (l46 (a43 k).toInt.toNat) (a43 j).toInt.toNat = true ∧ (a45 (4 * k + d k)).toInt = (a45 (4 * j + d j)).toInt)) := by
      intro hn
      refine ih f (l + 1) (x + Int32.ofInt 1) (by omega) (by omega) (by omega) (fun j hj => ?_)
      by_cases e : j = l
      · rw [e]; exact hn
      · exact h j (by omega)
    by_cases w : bitL (l46 (a43 k).toInt.toNat) (a43 l).toInt.toNat = true
    · rw [if_pos w, if_neg (show ¬ (1 : Int) = 0 by decide)]
      by_cases w2 : (a45 (4 * k + d k)).toInt ≠ (a45 (4 * l + d l)).toInt
      · rw [if_pos w2]; exact next (fun z => w2 z.2)
      · rw [if_neg w2]
        exact Or.inr ⟨rfl, fun z => z l (by omega) ⟨w, by omega⟩⟩
    · rw [if_neg w, if_pos rfl]; exact next (fun z => w z.1)
theorem ms_of {u0 : Int32} {d : Nat → Nat} {k N : Nat} (hk : u0.toInt = (k : Int)) (hkN : k < N) (h6 : N ≤ 6) (hd : ∀ j, j < N → d j < 4) (hrow : ∀ j, j ≤ k → a49 j = Int32.ofNat (d j)) (hsg : ∀ j, j < N → 0 ≤ (a43 j).toInt ∧ (a43 j).toInt < 40) :
    (F_x0_mayStand u0 a43 a45 a48 a49 l46 = 1 ∧ MSP a43 a45 a48 l46 d k) ∨ (F_x0_mayStand u0 a43 a45 a48 a49 l46 = 0 ∧ ¬ MSP a43 a45 a48 l46 d k) := by
  have h4 := hd k hkN
  have e1 : (Int32.ofNat (d k)).toInt = (d k : Int) := nI_toInt (by omega)
  rw [E_x0_mayStand, nc hk, hrow k (Nat.le_refl _), (o_ix hk e1 (by omega) (by omega)).1]
  by_cases w : (a48 (4 * k + d k)).toInt = 0
  · rw [if_pos w]
    rcases ms_loop (l46 := l46) (a45 := a45) hk hkN h6 hd hrow hsg k 6 0 0 c0 (by omega) (by omega) (fun j hj => absurd hj (by omega)) with ⟨h1, h2⟩ | ⟨h1, h2⟩
    · exact Or.inl ⟨h1, fun z => z w, h2⟩
    · exact Or.inr ⟨h1, fun z => h2 z.2⟩
  · rw [if_neg w]
    exact Or.inr ⟨rfl, fun z => z.1 w⟩
/-- the same, by the reference -/
theorem mm_loop {u0 x2 : Int32} {p k N : Nat} {K : Int32 → Int32} (hA : RA l46 b58) (hu : u0.toInt = (p : Int)) (hk : x2.toInt = (k : Int)) (hkN : k < N) (h6 : N ≤ 6) (hc : CH a44 N p) (hs4 : ∀ j, j < N → (a44 j).toInt ≤ 4) (ho : ∀ k, k < N → a43 k = b55 k ∧ ∀ j : Nat, (j : Int) < (a44 k).toInt → a45 (4 * k + j) = b57 (4 * k + j)) (hsg : ∀ j, j < N → 0 ≤ (a43 j).toInt ∧ (a43 j).toInt < 40) {z : Int32} (hz : z.toInt = ((4 * k + dg4 p k : Nat) : Int)) : ∀ (m f l : Nat) (x : Int32), x.toInt = (l : Int) → k = l + m → m < f → (∀ j, j < l → ¬ (bitL (l46 (a43 k).toInt.toNat) (a43 j).toInt.toNat = true ∧ (a45 (4 * k + dg4 p k)).toInt = (a45 (4 * j + dg4 p j)).toInt)) →
    (f_m12_mayBe_j17 u0 b55 b57 b58 x2 K z f x = K (x2 + Int32.ofInt 1) ∧ ∀ j, j < k → ¬ (bitL (l46 (a43 k).toInt.toNat) (a43 j).toInt.toNat = true ∧ (a45 (4 * k + dg4 p k)).toInt = (a45 (4 * j + dg4 p j)).toInt)) ∨ (f_m12_mayBe_j17 u0 b55 b57 b58 x2 K z f x = 0 ∧ ¬ ∀ j, j < k → ¬ (bitL (l46 (a43 k).toInt.toNat) (a43 j).toInt.toNat = true ∧ (a45 (4 * k + dg4 p k)).toInt = (a45 (4 * j + dg4 p j)).toInt)) := by
  have o1 := co1
  intro m
  induction m with
  | zero =>
    intro f l x hx hm hf h
    obtain ⟨f, rfl⟩ : ∃ w, f = w + 1 := ⟨f - 1, by omega⟩
    rw [S_m12_mayBe_j17, if_pos (show x.toInt ≥ x2.toInt by omega)]
    exact Or.inl ⟨rfl, fun j hj => h j (by omega)⟩
  | succ m ih =>
    intro f l x hx hm hf h
    obtain ⟨f, rfl⟩ : ∃ w, f = w + 1 := ⟨f - 1, by omega⟩
    have hx1 := toInt_add hx co1 (by omega) (by omega)
    have s1 := hsg k hkN
    have s2 := hsg l (by omega)
    have d2 := dig4_of (K := x) hx (by omega) hu
    have l4 := dg4_lt p l
    have ix := (o_ix (x := F_m12_digit u0 x (4 : Int32)) hx d2 (by omega) (by omega)).2
    have hb := hA (a43 k).toInt.toNat (a43 l).toInt.toNat (by omega) (by omega)
    rw [S_m12_mayBe_j17, if_neg (show ¬ x.toInt ≥ x2.toInt by omega), nc hk, nc hx, ← (ho k hkN).1, ← (ho l (by omega)).1, idx40 s1 s2, ix, nc hz, ← (ho k hkN).2 (dg4 p k) (hc.2 k hkN), ← (ho l (by omega)).2 (dg4 p l) (hc.2 l (by omega)), hb]
    have next : ¬ (bitL (l46 (a43 k).toInt.toNat) (a43 l).toInt.toNat = true ∧ (a45 (4 * k + dg4 p k)).toInt = (a45 (4 * l + dg4 p l)).toInt) → (f_m12_mayBe_j17 u0 b55 b57 b58 x2 K z f (x + Int32.ofInt 1) = K (x2 + Int32.ofInt 1) ∧ ∀ j, j < k → ¬ (bitL (l46 (a43 k).toInt.toNat) (a43 j).toInt.toNat = true ∧ (a45 (4 * k + dg4 p k)).toInt = (a45 (4 * j + dg4 p j)).toInt)) ∨ (f_m12_mayBe_j17 u0 b55 b57 b58 x2 K z f (x + Int32.ofInt 1) = 0 ∧ ¬ ∀ j, j < k → ¬ (bitL (l46 (a43 k).toInt.toNat) (a43 j).toInt.toNat = true ∧ (a45 (4 * k + dg4 p k)).toInt = (a45 (4 * j + dg4 p j)).toInt)) := by
      intro hn
      refine ih f (l + 1) (x + Int32.ofInt 1) (by omega) (by omega) (by omega) (fun j hj => ?_)
      by_cases e : j = l
      · rw [e]; exact hn
      · exact h j (by omega)
    by_cases w : bitL (l46 (a43 k).toInt.toNat) (a43 l).toInt.toNat = true
    · rw [if_pos w, if_neg (show ¬ (1 : Int) = 0 by decide)]
      by_cases w2 : (a45 (4 * k + dg4 p k)).toInt ≠ (a45 (4 * l + dg4 p l)).toInt
      · rw [if_pos w2]; exact next (fun z => w2 z.2)
      · rw [if_neg w2]
        exact Or.inr ⟨rfl, fun z => z l (by omega) ⟨w, by omega⟩⟩
    · rw [if_neg w, if_pos rfl]; exact next (fun z => w z.1)
theorem mm_all {u0 : Int32} {p N : Nat} (hN : i30.toInt = (N : Int)) (hA : RA l46 b58) (hu : u0.toInt = (p : Int)) (h6 : N ≤ 6) (hc : CH a44 N p) (hs4 : ∀ j, j < N → (a44 j).toInt ≤ 4) (ho : ∀ k, k < N → a43 k = b55 k ∧ ∀ j : Nat, (j : Int) < (a44 k).toInt → a45 (4 * k + j) = b57 (4 * k + j)) (hsg : ∀ j, j < N → 0 ≤ (a43 j).toInt ∧ (a43 j).toInt < 40) (hZ : NQ a48 b60) : ∀ (m f k : Nat) (x : Int32), x.toInt = (k : Int) → N = k + m → m < f → (∀ j, j < k → MSP a43 a45 a48 l46 (dg4 p) j) →
    (f_m12_mayBe_j1 u0 i30 b55 b57 b58 b60 f x = 1 ∧ ∀ j, j < N → MSP a43 a45 a48 l46 (dg4 p) j) ∨ (f_m12_mayBe_j1 u0 i30 b55 b57 b58 b60 f x = 0 ∧ ¬ ∀ j, j < N → MSP a43 a45 a48 l46 (dg4 p) j) := by
  have o1 := co1
  intro m
  induction m with
  | zero =>
    intro f k x hx hm hf h
    obtain ⟨f, rfl⟩ : ∃ w, f = w + 1 := ⟨f - 1, by omega⟩
    rw [S_m12_mayBe_j1, if_pos (show x.toInt ≥ i30.toInt by omega)]
    exact Or.inl ⟨rfl, fun j hj => h j (by omega)⟩
  | succ m ih =>
    intro f k x hx hm hf h
    obtain ⟨f, rfl⟩ : ∃ w, f = w + 1 := ⟨f - 1, by omega⟩
    have hx1 := toInt_add hx co1 (by omega) (by omega)
    have d1 := dig4_of (K := x) hx (by omega) hu
    have l4 := dg4_lt p k
    have e1 := toInt_mul c4o hx rfl (by omega) (by omega)
    have e2 := toInt_add e1 d1 (by omega) (by omega)
    have hz : (((4 : Int32) * x) + (F_m12_digit u0 x (4 : Int32))).toInt = ((4 * k + dg4 p k : Nat) : Int) := by omega
    rw [S_m12_mayBe_j1, if_neg (show ¬ x.toInt ≥ i30.toInt by omega), nc hz]
    have hq := hZ (4 * k + dg4 p k) (by omega)
    by_cases w : (b60 (4 * k + dg4 p k)).toInt = 0
    · have nb : ¬ NZ a48 (4 * k + dg4 p k) := fun z => (hq.mp z) w
      rw [if_pos w]
      rcases mm_loop (K := f_m12_mayBe_j1 u0 i30 b55 b57 b58 b60 f) hA hu hx (by omega) h6 hc hs4 ho hsg hz k 6 0 0 c0 (by omega) (by omega) (fun j hj => absurd hj (by omega)) with ⟨h1, h2⟩ | ⟨h1, h2⟩
      · rw [h1]
        refine ih f (k + 1) (x + Int32.ofInt 1) (by omega) (by omega) (by omega) (fun j hj => ?_)
        by_cases e : j = k
        · rw [e]; exact ⟨nb, h2⟩
        · exact h j (by omega)
      · rw [h1]
        exact Or.inr ⟨rfl, fun z => h2 (z k (by omega)).2⟩
    · rw [if_neg w]
      exact Or.inr ⟨rfl, fun z => (z k (by omega)).1 (hq.mpr w)⟩
/-- the sum, as both reckon it -/
def SM4 (a47 : Nat → Int32) (d : Nat → Nat) : Nat → Nat → Int32 → Int32
  | 0, _, s => s
  | m + 1, k, s => SM4 a47 d m (k + 1) (s + a47 (4 * k + d k))
theorem pr_loop {p N : Nat} (hN : i30.toInt = (N : Int)) (h6 : N ≤ 6) (hrow : ∀ j, j < N → a49 j = Int32.ofNat (dg4 p j)) (hsg : ∀ j, j < N → 0 ≤ (a43 j).toInt ∧ (a43 j).toInt < 40) : ∀ (m f k : Nat) (x2 x3 : Int32), x3.toInt = (k : Int) → N = k + m → m < f → (∀ j, j < k → MSP a43 a45 a48 l46 (dg4 p) j) →
    f_x0_priceOfRow_j1 i30 a43 a45 a47 a48 a49 l46 f x2 x3 = SM4 a47 (dg4 p) m k x2 ∧ (∀ j, j < N → MSP a43 a45 a48 l46 (dg4 p) j) ∨ f_x0_priceOfRow_j1 i30 a43 a45 a47 a48 a49 l46 f x2 x3 = (-2 : Int32) ∧ ¬ ∀ j, j < N → MSP a43 a45 a48 l46 (dg4 p) j := by
  have o1 := co1
  intro m
  induction m with
  | zero =>
    intro f k x2 x3 hx hm hf h
    obtain ⟨f, rfl⟩ : ∃ w, f = w + 1 := ⟨f - 1, by omega⟩
    rw [S_x0_priceOfRow_j1, if_pos (show x3.toInt ≥ i30.toInt by omega)]
    exact Or.inl ⟨rfl, fun j hj => h j (by omega)⟩
  | succ m ih =>
    intro f k x2 x3 hx hm hf h
    obtain ⟨f, rfl⟩ : ∃ w, f = w + 1 := ⟨f - 1, by omega⟩
    have hx1 := toInt_add hx co1 (by omega) (by omega)
    have l4 := dg4_lt p k
    have e1 : (Int32.ofNat (dg4 p k)).toInt = (dg4 p k : Int) := nI_toInt (by omega)
    rw [S_x0_priceOfRow_j1, if_neg (show ¬ x3.toInt ≥ i30.toInt by omega), nc hx, hrow k (by omega), (o_ix hx e1 (by omega) (by omega)).1]
    rcases ms_of (a43 := a43) (a45 := a45) (a48 := a48) (l46 := l46) (d := dg4 p) (N := N) hx (by omega) h6 (fun j _ => dg4_lt p j) (fun j hj => hrow j (by omega)) hsg with ⟨h1, h2⟩ | ⟨h1, h2⟩
    · rw [h1, if_pos (show (1 : Int32).toInt ≠ 0 by decide)]
      exact ih f (k + 1) (x2 + a47 (4 * k + dg4 p k)) (x3 + Int32.ofInt 1) (by omega) (by omega) (by omega) (fun j hj => by
        by_cases e : j = k
        · rw [e]; exact h2
        · exact h j (by omega))
    · rw [h1, if_neg (show ¬ ((0 : Int32).toInt ≠ 0) by decide)]
      exact Or.inr ⟨rfl, fun z => h2 (z k (by omega))⟩
theorem co_loop {u0 : Int32} {p N : Nat} (hN : i30.toInt = (N : Int)) (h6 : N ≤ 6) (hu : u0.toInt = (p : Int)) {n : Int} (hQ : PQ n a47 b59) : ∀ (m f k : Nat) (x2 x3 : Int32), x3.toInt = (k : Int) → N = k + m → m < f → f_m12_costOf_j1 u0 i30 b59 f x2 x3 = SM4 a47 (dg4 p) m k x2 := by
  have o1 := co1
  intro m
  induction m with
  | zero =>
    intro f k x2 x3 hx hm hf
    obtain ⟨f, rfl⟩ : ∃ w, f = w + 1 := ⟨f - 1, by omega⟩
    rw [S_m12_costOf_j1, if_pos (show x3.toInt ≥ i30.toInt by omega)]; rfl
  | succ m ih =>
    intro f k x2 x3 hx hm hf
    obtain ⟨f, rfl⟩ : ∃ w, f = w + 1 := ⟨f - 1, by omega⟩
    have hx1 := toInt_add hx co1 (by omega) (by omega)
    have l4 := dg4_lt p k
    have d1 := dig4_of (K := x3) hx (by omega) hu
    rw [S_m12_costOf_j1, if_neg (show ¬ x3.toInt ≥ i30.toInt by omega), (o_ix (x := F_m12_digit u0 x3 (4 : Int32)) hx d1 (by omega) (by omega)).2, ← (hQ (4 * k + dg4 p k) (by omega)).1]
    exact ih f (k + 1) (x2 + a47 (4 * k + dg4 p k)) (x3 + Int32.ofInt 1) (by omega) (by omega) (by omega)
end ROWS
section CST
variable {v day i3 i6 i9 cu : Int32} {a7 a8 a13 a18 a19 a20 a21 a22 a23 a24 a25 a26 b2 b3 b4 b8 b15 b16 b17 b18 b19 b20 b21 b22 b23 b24 b25 b26 b5 : Nat → Int32} {r9n rtn : Nat → Nat} {r9c rtc : Nat → Nat → Int32} {c : Nat}
variable {i10 i30 : Int32} {a29 a43 a44 a45 a47 a48 a49 b28 b29 b33 b34 b35 b36 b37 b38 b39 b40 b41 b42 b55 b56 b57 b58 b59 b60 : Nat → Int32} {l46 : Nat → Int64} {ptn : Nat} {ptc : Nat → Int32} {og : Nat → Nat → Int32} {ogn : Nat → Nat → Nat} {ogc : Nat → Nat → Nat → Int32}
/-- what both reckon first, if there are OPTIONS -/
theorem rk_of {i17 i18 i19 i20 i21 i22 i23 i24 i25 i26 : Int32} (hv : 0 ≤ i3.toInt ∧ i3.toInt ≤ 60) (h6 : 0 ≤ i6.toInt ∧ i6.toInt ≤ 6) (h9 : 0 ≤ i9.toInt ∧ i9.toInt ≤ 20) (hV : VRS i3 a7 b2) (hM : MES i3 a8 b3) (hP : PPL i6 a13 b8) (hL : LAW i9 a18 a19 a20 a21 a22 a23 a24 a25 b15 b16 b17 b18 b19 b20 b21 b22) (hK : KI i9 b18 b19 b20 b21 b22) (hR : RWS r9n r9c b4 b5) (hC : RCC i9 a21 a26 rtn rtc b23 b24 b25 b26) (hN : RNC i10 og ogn ogc b33 b34 b36 b37 b38 b39 b40 b41 b42) (hF : FXD i10 a29 b34 b35) (h10 : 0 ≤ i10.toInt ∧ i10.toInt ≤ 200) (hT : TRN i10 ogn ogc) (hO : RO i30 a43 a44 a45 i30 b55 b56 b57) (hn : ¬ i30.toInt = 0) :
    ∃ (j17 j18 j19 j20 j21 j22 j23 j24 j25 j26 : Int32) (a1 a2 : Nat → Int32) (qtn : Nat) (qtc : Nat → Int32) (d28 d29 c1 c2 : Nat → Int32), F_x0_reckon day i3 i6 i9 i10 i17 i18 i19 i20 i21 i22 i23 i24 i25 i26 i30 a7 a8 a13 a18 a19 a20 a21 a22 a23 a24 a25 a26 a29 a43 a44 a45 a47 a48 r9n r9c ogn ogc rtn rtc ptn ptc = (j17, j18, j19, j20, j21, j22, j23, j24, j25, j26, a1, a2, qtn, qtc) ∧ F_m12_prices day i3 i6 i9 i10 i30 b2 b3 b4 b8 b15 b16 b17 b18 b19 b20 b21 b22 b23 b24 b25 b26 b28 b29 b34 b35 b38 b39 b40 b41 b42 b55 b56 b57 b59 b60 = (d28, d29, c1, c2) ∧ PQ 720 a1 c1 ∧ NQ a2 c2 := by
  obtain ⟨a1, a2, c1, c2, r1, r2, r3⟩ := rs_both (day := day) (i3 := i3) (i6 := i6) (i9 := i9) (i10 := i10) (i30 := i30) (a7 := a7) (a8 := a8) (a13 := a13) (a18 := a18) (a19 := a19) (a20 := a20) (a21 := a21) (a22 := a22) (a23 := a23) (a24 := a24) (a25 := a25) (a26 := a26) (a29 := a29) (a43 := a43) (a44 := a44) (a45 := a45) (r9n := r9n) (r9c := r9c) (ogn := ogn) (ogc := ogc) (rtn := rtn) (rtc := rtc) (ptn := ptn) (ptc := ptc) (b2 := b2) (b3 := b3) (b4 := b4) (b8 := b8) (b15 := b15) (b16 := b16) (b17 := b17) (b18 := b18) (b19 := b19) (b20 := b20) (b21 := b21) (b22 := b22) (b23 := b23) (b24 := b24) (b25 := b25) (b26 := b26) (b28 := b28) (b29 := b29) (b34 := b34) (b35 := b35) (b38 := b38) (b39 := b39) (b40 := b40) (b41 := b41) (b42 := b42) (b55 := b55) (b56 := b56) (b57 := b57) (i17 := i17) (i18 := i18) (i19 := i19) (i20 := i20) (i21 := i21) (i22 := i22) (i23 := i23) (i24 := i24) (i25 := i25) (i26 := i26) 24 25 25 0 0 a47 a48 b59 b60 c0 (by omega) (by omega) (by omega) (fun q hq => absurd hq (by omega))
  obtain ⟨j17, j18, j19, j20, j21, j22, j23, j24, j25, j26, e1, e2, qtn, qtc, d28, d29, g1, g2, s1, s2, s3, s4⟩ := vl_both (og := og) (b33 := b33) (b36 := b36) (b37 := b37) (day := day) hv h6 h9 hV hM hP hL hK hR hC hN hF h10 hT hO i3.toInt.toNat 61 61 0 0 i17 i18 i19 i20 i21 i22 i23 i24 i25 i26 a1 a2 ptn ptc b28 b29 c1 c2 0 c0 (by omega) (by omega) (by omega) (by omega) (by omega) (fun q hq => ⟨(r3 q hq).1.1, by have := (r3 q hq).1.2; omega, by have := (r3 q hq).1.2; omega⟩) (fun q hq => ⟨fun z => absurd z (r3 q hq).2.1, fun z => absurd z (r3 q hq).2.2⟩)
  refine ⟨j17, j18, j19, j20, j21, j22, j23, j24, j25, j26, e1, e2, qtn, qtc, d28, d29, g1, g2, ?_, ?_, PQ_mono s3 (by omega), s4⟩
  · rw [E_x0_reckon, r1, S_x0_reckon_j1 (n_ := 0), if_pos (by decide), if_pos hn]
    exact s1
  · rw [E_m12_prices, r2, S_m12_prices_j1 (n_ := 0), if_pos (by decide)]
    exact s2
theorem R_cost {u0 i17 i18 i19 i20 i21 i22 i23 i24 i25 i26 : Int32} (hv : 0 ≤ i3.toInt ∧ i3.toInt ≤ 60) (h6 : 0 ≤ i6.toInt ∧ i6.toInt ≤ 6) (h9 : 0 ≤ i9.toInt ∧ i9.toInt ≤ 20) (hV : VRS i3 a7 b2) (hM : MES i3 a8 b3) (hP : PPL i6 a13 b8) (hL : LAW i9 a18 a19 a20 a21 a22 a23 a24 a25 b15 b16 b17 b18 b19 b20 b21 b22) (hK : KI i9 b18 b19 b20 b21 b22) (hR : RWS r9n r9c b4 b5) (hC : RCC i9 a21 a26 rtn rtc b23 b24 b25 b26) (hN : RNC i10 og ogn ogc b33 b34 b36 b37 b38 b39 b40 b41 b42) (hF : FXD i10 a29 b34 b35) (h10 : 0 ≤ i10.toInt ∧ i10.toInt ≤ 200) (hT : TRN i10 ogn ogc) (hO : RO i30 a43 a44 a45 i30 b55 b56 b57) (hA : RA l46 b58) (hs40 : ∀ j : Nat, (j : Int) < i30.toInt → 0 ≤ (b55 j).toInt ∧ (b55 j).toInt ≤ 39) : (F_x11_cost u0 day i3 i6 i9 i10 i17 i18 i19 i20 i21 i22 i23 i24 i25 i26 i30 a7 a8 a13 a18 a19 a20 a21 a22 a23 a24 a25 a26 a29 a43 a44 a45 a47 a48 a49 l46 r9n r9c ogn ogc rtn rtc ptn ptc).1 = (F_m12_cost u0 day i3 i6 i9 i10 i30 b2 b3 b4 b8 b15 b16 b17 b18 b19 b20 b21 b22 b23 b24 b25 b26 b28 b29 b34 b35 b38 b39 b40 b41 b42 b55 b56 b57 b58 b59 b60).1 := by
  obtain ⟨N, hN2⟩ : ∃ N : Nat, i30.toInt = (N : Int) := ⟨i30.toInt.toNat, by have := hO.2.1.1; omega⟩
  have h6n : N ≤ 6 := by have := hO.2.1.2; omega
  have ho := hO.2.2.1
  have hs : ∀ j, j < N → a44 j = b56 j := fun j hj => (ho j (by omega)).2.1
  have hs4 : ∀ j, j < N → (a44 j).toInt ≤ 4 := fun j hj => (ho j (by omega)).2.2.1.2
  have ho2 : ∀ k, k < N → a43 k = b55 k ∧ ∀ j : Nat, (j : Int) < (a44 k).toInt → a45 (4 * k + j) = b57 (4 * k + j) := fun k hk => ⟨(ho k (by omega)).1, (ho k (by omega)).2.2.2⟩
  have hsg : ∀ j, j < N → 0 ≤ (a43 j).toInt ∧ (a43 j).toInt < 40 := fun j hj => by
    rw [(ho2 j hj).1]; have := hs40 j (by omega); omega
  rw [E_x11_cost, E_m12_cost]
  rcases rr_of (u0 := u0) (a44 := a44) (a49 := a49) hN2 h6n with ⟨p, hp, hc, a', q1, q2⟩ | ⟨hno, q1⟩
  · rcases ic_of (u0 := u0) (a44 := a44) (b56 := b56) hN2 h6n hs with ⟨p', hp', _, g⟩ | ⟨hno, _⟩
    · rw [q1, g, if_pos (show (1 : Int32).toInt ≠ 0 by decide), if_pos (show (1 : Int32).toInt ≠ 0 by decide)]
      dsimp only
      by_cases z : i30.toInt = 0
      · have eN : N = 0 := by omega
        rw [E_x0_priceOfRow, S_x0_priceOfRow_j1 (n_ := 6), if_pos (show (0 : Int32).toInt ≥ i30.toInt by rw [c0]; omega), E_m12_mayBe, S_m12_mayBe_j1 (n_ := 6), if_pos (show (0 : Int32).toInt ≥ i30.toInt by rw [c0]; omega), if_neg n10, E_m12_costOf, S_m12_costOf_j1 (n_ := 6), if_pos (show (0 : Int32).toInt ≥ i30.toInt by rw [c0]; omega)]
      · obtain ⟨j17, j18, j19, j20, j21, j22, j23, j24, j25, j26, e1, e2, qtn, qtc, d28, d29, g1, g2, s1, s2, s3, s4⟩ := rk_of (day := day) (i17 := i17) (i18 := i18) (i19 := i19) (i20 := i20) (i21 := i21) (i22 := i22) (i23 := i23) (i24 := i24) (i25 := i25) (i26 := i26) (a47 := a47) (a48 := a48) (ptn := ptn) (ptc := ptc) (b28 := b28) (b29 := b29) (b59 := b59) (b60 := b60) hv h6 h9 hV hM hP hL hK hR hC hN hF h10 hT hO z
        rw [s1, s2]
        dsimp only
        rw [E_x0_priceOfRow, E_m12_mayBe, E_m12_costOf, co_loop hN2 h6n hp s3 N 7 0 0 0 c0 (by omega) (by omega)]
        rcases pr_loop (a43 := a43) (a45 := a45) (a47 := e1) (a48 := e2) (l46 := l46) hN2 h6n q2 hsg N 7 0 0 0 c0 (by omega) (by omega) (fun j hj => absurd hj (by omega)) with ⟨h1, h2⟩ | ⟨h1, h2⟩
        · rcases mm_all (a48 := e2) (b60 := g2) hN2 hA hp h6n hc hs4 ho2 hsg s4 N 7 0 0 c0 (by omega) (by omega) (fun j hj => absurd hj (by omega)) with ⟨k1, _⟩ | ⟨_, k2⟩
          · rw [h1, k1, if_neg n10]
          · exact absurd h2 k2
        · rcases mm_all (a48 := e2) (b60 := g2) hN2 hA hp h6n hc hs4 ho2 hsg s4 N 7 0 0 c0 (by omega) (by omega) (fun j hj => absurd hj (by omega)) with ⟨_, k2⟩ | ⟨k1, _⟩
          · exact absurd k2 h2
          · rw [h1, k1, if_pos y00]
    · exact absurd hc (hno p hp)
  · rcases ic_of (u0 := u0) (a44 := a44) (b56 := b56) hN2 h6n hs with ⟨p', hp', hc, _⟩ | ⟨_, g⟩
    · exact absurd hc (hno p' hp')
    · rw [q1, g, if_neg (show ¬ ((0 : Int32).toInt ≠ 0) by decide), if_neg (show ¬ ((0 : Int32).toInt ≠ 0) by decide)]
end CST
