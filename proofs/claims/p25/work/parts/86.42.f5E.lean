/-! QUARRELS on both sides -/
section QQ
variable {v day i3 i6 i9 cu : Int32} {a7 a8 a13 a18 a19 a20 a21 a22 a23 a24 a25 a26 b2 b3 b4 b8 b15 b16 b17 b18 b19 b20 b21 b22 b23 b24 b25 b26 b5 : Nat → Int32} {r9n rtn : Nat → Nat} {r9c rtc : Nat → Nat → Int32} {c : Nat}
theorem up_no {f : Nat → Int32} {k q : Nat} {x : Int32} (h : q ≠ k) : upd f k x q = f q := by unfold upd; rw [if_neg h]
theorem frsL_len {mt : Nat → Int32 → Bool} {vl : Nat → Int32} {tk t : Int32} : ∀ (R : List Nat) (b : Nat), R.length ≤ b → (frsL mt vl tk t R).length ≤ b * R.length := by
  intro R
  induction R with
  | nil => intro b _; exact Nat.zero_le _
  | cons p R ih =>
    intro b hb
    have hb' : R.length + 1 ≤ b := hb
    have h1 := ih b (by omega)
    have h2 := secL_len (mt := mt) (vl := vl) (tk := tk) (t := t) (p := p) R
    have e : b * (p :: R).length = b * R.length + b := Nat.mul_succ b R.length
    rw [e]
    by_cases w : mt p tk = true
    · rw [frsL_y w, List.length_append]; omega
    · rw [frsL_n w]; omega
/-- TOKEN by TOKEN: the reference -/
theorem mq6 {wt cp tk : Int32} {n w : Nat} {f32 : Nat → Int32} (h9 : 0 ≤ i9.toInt ∧ i9.toInt ≤ 20) (hL : LAW i9 a18 a19 a20 a21 a22 a23 a24 a25 b15 b16 b17 b18 b19 b20 b21 b22) (hC : RCC i9 a21 a26 rtn rtc b23 b24 b25 b26) (hT : F_m12_tokensOf v day i6 i9 b2 b4 b8 b15 b16 b17 b18 b19 b20 b21 = tk) (htk : tk.toInt = (n : Int)) (hn : n ≤ 8) (hw : 16 * i9.toInt = (w : Int))
    (htok : ∀ (t : Nat) (x : Int32), x.toInt = (t : Int) → t < n → b5 (((8 : Int32) * (((3 : Int32) * v) + cp)) + x).toNatClampNeg = f32 t) :
    ∀ (m f t : Nat) (x7 x8 i19 i20 i21 : Int32) (b28 b29 : Nat → Int32), x8.toInt = (t : Int) → n = t + m → m < f → 0 ≤ x7.toInt → x7.toInt + 110000 * m ≤ 1000000 →
    ∃ (y : Int32) (d28 d29 : Nat → Int32), f_m12_quarrelsOf_j6 v wt day i6 i9 b2 b3 b4 b5 b8 b15 b16 b17 b18 b19 b20 b21 b22 b23 b24 b25 b26 cp f x7 x8 i19 i20 i21 b28 b29 = (y, (fnd wt.toInt x7.toInt (qrl (mtB b19 b20 b21) b22 f32 (WF (hwB 119 v day i6 i9 b2 b3 b4 b8 b15 b16 b17 b18 b19 b20 b21 b23 b24 b25 b26) w 0) m t) (i19, i20, i21)).1, (fnd wt.toInt x7.toInt (qrl (mtB b19 b20 b21) b22 f32 (WF (hwB 119 v day i6 i9 b2 b3 b4 b8 b15 b16 b17 b18 b19 b20 b21 b23 b24 b25 b26) w 0) m t) (i19, i20, i21)).2.1, (fnd wt.toInt x7.toInt (qrl (mtB b19 b20 b21) b22 f32 (WF (hwB 119 v day i6 i9 b2 b3 b4 b8 b15 b16 b17 b18 b19 b20 b21 b23 b24 b25 b26) w 0) m t) (i19, i20, i21)).2.2, d28, d29) ∧ y.toInt = x7.toInt + (qrl (mtB b19 b20 b21) b22 f32 (WF (hwB 119 v day i6 i9 b2 b3 b4 b8 b15 b16 b17 b18 b19 b20 b21 b23 b24 b25 b26) w 0) m t).length := by
  have o1 := co1
  have e0 := c0
  intro m
  induction m with
  | zero =>
    intro f t x7 x8 i19 i20 i21 b28 b29 hx hm hf _ _
    obtain ⟨f, rfl⟩ : ∃ w, f = w + 1 := ⟨f - 1, by omega⟩
    rw [S_m12_quarrelsOf_j6, hT, if_pos (by omega)]
    exact ⟨x7, b28, b29, rfl, by show _ = x7.toInt + ((0 : Nat) : Int); omega⟩
  | succ m ih =>
    intro f t x7 x8 i19 i20 i21 b28 b29 hx hm hf h0 hb
    obtain ⟨f, rfl⟩ : ∃ w, f = w + 1 := ⟨f - 1, by omega⟩
    have hx1 := toInt_add hx co1 (by omega) (by omega)
    have et : x8 = Int32.ofNat t := oN hx
    rw [S_m12_quarrelsOf_j6, hT, if_neg (by omega), htok t x8 hx (by omega)]
    obtain ⟨y, d28, d29, r1, r2, r3⟩ := mq29 (v := v) (day := day) (i6 := i6) (b2 := b2) (b3 := b3) (b4 := b4) (b8 := b8) (wt := wt) (x8 := x8) (z28 := f32 t) (K := f_m12_quarrelsOf_j6 v wt day i6 i9 b2 b3 b4 b5 b8 b15 b16 b17 b18 b19 b20 b21 b22 b23 b24 b25 b26 cp f) h9 hL hC w 4001 0 x7 0 i19 i20 i21 b28 b29 c0 (by omega) (by omega) h0 (by omega)
    rw [r1]
    have eq : qrl (mtB b19 b20 b21) b22 f32 (WF (hwB 119 v day i6 i9 b2 b3 b4 b8 b15 b16 b17 b18 b19 b20 b21 b23 b24 b25 b26) w 0) (m + 1) t = frsL (mtB b19 b20 b21) b22 (f32 t) x8 (WF (hwB 119 v day i6 i9 b2 b3 b4 b8 b15 b16 b17 b18 b19 b20 b21 b23 b24 b25 b26) w 0) ++ qrl (mtB b19 b20 b21) b22 f32 (WF (hwB 119 v day i6 i9 b2 b3 b4 b8 b15 b16 b17 b18 b19 b20 b21 b23 b24 b25 b26) w 0) m (t + 1) := by
      rw [et]; rfl
    rw [eq]
    generalize frsL (mtB b19 b20 b21) b22 (f32 t) x8 (WF (hwB 119 v day i6 i9 b2 b3 b4 b8 b15 b16 b17 b18 b19 b20 b21 b23 b24 b25 b26) w 0) = A1 at r2 ⊢
    obtain ⟨y2, c28, c29, s1, s2⟩ := ih f (t + 1) y (x8 + Int32.ofInt 1) (fnd wt.toInt x7.toInt A1 (i19, i20, i21)).1 (fnd wt.toInt x7.toInt A1 (i19, i20, i21)).2.1 (fnd wt.toInt x7.toInt A1 (i19, i20, i21)).2.2 d28 d29 (by omega) (by omega) (by omega) (by omega) (by omega)
    generalize qrl (mtB b19 b20 b21) b22 f32 (WF (hwB 119 v day i6 i9 b2 b3 b4 b8 b15 b16 b17 b18 b19 b20 b21 b23 b24 b25 b26) w 0) m (t + 1) = A2 at s1 s2 ⊢
    have e : ((A1 ++ A2).length : Int) = A1.length + A2.length := by rw [List.length_append]; omega
    refine ⟨y2, c28, c29, ?_, by rw [e]; omega⟩
    rw [s1, fnd_app, r2]
/-- what is told of a QUARREL -/
def qans (x : I3) (u2 : Int32) : Int32 := if u2.toInt = 0 then x.2.1 else if u2.toInt = 1 then x.1 / (16 : Int32) else if u2.toInt = 2 then x.1 - x.1 / (16 : Int32) * (16 : Int32) else if u2.toInt = 3 then x.2.2 / (16 : Int32) else if u2.toInt = 4 then x.2.2 - x.2.2 / (16 : Int32) * (16 : Int32) else (-1 : Int32)
theorem told_q {x : I3} {u2 : Int32} {c36 : Nat → Int32} (h0 : ¬ u2.toInt < 0) (h4 : u2.toInt ≤ 4) : F_x1_told u2 (upd (F_x1_tellClause 3 x.2.2 (F_x1_tellClause 1 x.1 c36)) 0 x.2.1) = qans x u2 := by
  have e1 : (1 : Int32).toNatClampNeg = 1 := by decide
  have e2 : ((1 : Int32) + (1 : Int32)).toNatClampNeg = 2 := by decide
  have e3 : (3 : Int32).toNatClampNeg = 3 := by decide
  have e4 : ((3 : Int32) + (1 : Int32)).toNatClampNeg = 4 := by decide
  rw [E_x1_told, if_neg h0, if_neg (show ¬ u2.toInt ≥ 5 by omega), E_x1_tellClause, E_x1_tellClause, e1, e2, e3, e4, E_x2_rulesOf, E_x2_placeOf, E_x2_rulesOf, E_x2_placeOf]
  unfold qans
  by_cases k0 : u2.toInt = 0
  · rw [if_pos k0, nc (p := 0) k0, upd_s]
  · rw [if_neg k0]
    by_cases k1 : u2.toInt = 1
    · rw [if_pos k1, nc (p := 1) k1, up_no (by decide), up_no (by decide), up_no (by decide), up_no (by decide), upd_s]
    · rw [if_neg k1]
      by_cases k2 : u2.toInt = 2
      · rw [if_pos k2, nc (p := 2) k2, up_no (by decide), up_no (by decide), up_no (by decide), upd_s]
      · rw [if_neg k2]
        by_cases k3 : u2.toInt = 3
        · rw [if_pos k3, nc (p := 3) k3, up_no (by decide), up_no (by decide), upd_s]
        · rw [if_neg k3, if_pos (show u2.toInt = 4 by omega), nc (p := 4) (show u2.toInt = ((4 : Nat) : Int) by omega), up_no (by decide), upd_s]
theorem mqans {u0 u1 u2 i1 i19 i20 i21 y : Int32} {r : I3} {b28 b29 d28 d29 : Nat → Int32} (hQ : F_m12_quarrelsOf u0 u1 i1 i6 i9 i19 i20 i21 b2 b3 b4 b5 b8 b15 b16 b17 b18 b19 b20 b21 b22 b23 b24 b25 b26 b28 b29 = (y, r.1, r.2.1, r.2.2, d28, d29)) (hver : F_m12_isVerse u0 i3 = 1) (h1 : ¬ u1.toInt < 0) :
    (F_m12_quarrel u0 u1 u2 i1 i3 i6 i9 i19 i20 i21 b2 b3 b4 b5 b8 b15 b16 b17 b18 b19 b20 b21 b22 b23 b24 b25 b26 b28 b29).1 = if y.toInt > u1.toInt then qans r u2 else (-1 : Int32) := by
  rw [E_m12_quarrel, hver, if_neg n10, if_neg h1, hQ]
  dsimp only
  by_cases g : y.toInt > u1.toInt
  · rw [if_pos g, if_pos g]
    unfold qans
    by_cases k0 : u2.toInt = 0
    · rw [if_pos k0, if_pos k0]
    · rw [if_neg k0, if_neg k0]
      by_cases k1 : u2.toInt = 1
      · rw [if_pos k1, if_pos k1]
      · rw [if_neg k1, if_neg k1]
        by_cases k2 : u2.toInt = 2
        · rw [if_pos k2, if_pos k2]
        · rw [if_neg k2, if_neg k2]
          by_cases k3 : u2.toInt = 3
          · rw [if_pos k3, if_pos k3]
          · rw [if_neg k3, if_neg k3]
            by_cases k4 : u2.toInt = 4
            · rw [if_pos k4, if_pos k4]
            · rw [if_neg k4, if_neg k4]
  · rw [if_neg g, if_neg g]
/-- THE SOURCE on both sides -/
theorem src_of {u0 i1 : Int32} {w : Nat} (hw : u0.toInt = (w : Int)) (hw2 : (w : Int) < i3.toInt) (hv : 0 ≤ i3.toInt ∧ i3.toInt ≤ 60) (h6 : 0 ≤ i6.toInt ∧ i6.toInt ≤ 6) (h9 : 0 ≤ i9.toInt ∧ i9.toInt ≤ 20) (hV : VRS i3 a7 b2) (hM : MES i3 a8 b3) (hP : PPL i6 a13 b8) (hL : LAW i9 a18 a19 a20 a21 a22 a23 a24 a25 b15 b16 b17 b18 b19 b20 b21 b22) (hK : KI i9 b18 b19 b20 b21 b22) (hR : RWS r9n r9c b4 b5) :
    ∃ (n : Nat) (f : Nat → Int32), F_x9_rowOf u0 (F_m12_copyOf u0 i1 i6 i9 b2 b4 b8 b15 b16 b17 b18 b19 b20 b21) i3 r9n r9c = (n, f) ∧ n ≤ 8 ∧ (F_m12_tokensOf u0 i1 i6 i9 b2 b4 b8 b15 b16 b17 b18 b19 b20 b21).toInt = (n : Int) ∧ ∀ (t : Nat) (x : Int32), x.toInt = (t : Int) → t < n → b5 (((8 : Int32) * (((3 : Int32) * u0) + F_m12_copyOf u0 i1 i6 i9 b2 b4 b8 b15 b16 b17 b18 b19 b20 b21)) + x).toNatClampNeg = f t := by
  obtain ⟨z20, hF, _⟩ := aim_of (u0 := u0) (u1 := i1) hw hw2 hv h6 h9 hV hM hP hL hK hR
  have CP := copy_of (day := i1) (i6 := i6) (b2 := b2) (b8 := b8) hw hw2 hv.2 h9 hF hL hK hR
  obtain ⟨i0, i1', i2⟩ := idx3c hw (by omega)
  have h : F_x9_has u0 i3 = 1 := by
    rcases xhas (u := u0) (i3 := i3) with ⟨_, h⟩ | ⟨h1, _⟩
    · exact h
    · omega
  obtain ⟨_, cp⟩ := CP
  rw [E_m12_tokensOf, i0, i1', i2]
  clear i0 i1' i2 hF hL hK hV hM hP
  generalize F_m12_copyOf u0 i1 i6 i9 b2 b4 b8 b15 b16 b17 b18 b19 b20 b21 = r at cp ⊢
  generalize (F_x6_findCopy i3 i9 u0 z20 a21 a22 a23 a25 r9n r9c).2 = rr at cp
  have hgo : ∀ c : Nat, c ≤ 2 → r.toInt = (c : Int) → ∃ (n : Nat) (f : Nat → Int32), F_x9_rowOf u0 r i3 r9n r9c = (n, f) ∧ n ≤ 8 ∧ (b4 (3 * w + c)).toInt = (n : Int) ∧ ∀ (t : Nat) (x : Int32), x.toInt = (t : Int) → t < n → b5 (((8 : Int32) * (((3 : Int32) * u0) + r)) + x).toNatClampNeg = f t := by
    intro c hc hr
    obtain ⟨g1, g2⟩ := row_of hR hw hr hw2 hv.2 hc
    have g3 := (hR (3 * w + c) (by omega)).1
    refine ⟨(F_x9_rowOf u0 r i3 r9n r9c).1, (F_x9_rowOf u0 r i3 r9n r9c).2, rfl, by omega, g1.symm, fun t x hx ht => ?_⟩
    rw [g2 t (by omega)]
    have m1 : ((3 : Int32) * u0).toInt = 3 * (w : Int) := toInt_mul (by decide) hw rfl (by omega) (by omega)
    have m2 := toInt_add m1 hr (by omega) (by omega)
    have m3 : ((8 : Int32) * (((3 : Int32) * u0) + r)).toInt = 8 * (3 * (w : Int) + (c : Int)) := toInt_mul (by decide) m2 rfl (by omega) (by omega)
    have m4 := toInt_add m3 hx (by omega) (by omega)
    rw [nc (p := 8 * (3 * w + c) + t) (by omega)]
  rcases cp with ⟨p1, _⟩ | ⟨p1, _, _⟩ | ⟨p1, _, _⟩ | ⟨p1, _, _⟩
  · rw [if_neg (by omega), E_x9_rowOf, h, if_neg n10]
    rcases xcop (u := r) with ⟨k1, _⟩ | ⟨_, k⟩
    · omega
    · rw [k, if_neg n00]
      exact ⟨0, z0, rfl, by omega, c0, fun t x _ ht => absurd ht (by omega)⟩
  · rw [if_pos (by omega), if_pos p1]; exact hgo 0 (by omega) p1
  · rw [if_pos (by omega), if_neg (by omega), if_pos p1]; exact hgo 1 (by omega) p1
  · rw [if_pos (by omega), if_neg (by omega), if_neg (by omega)]; exact hgo 2 (by omega) p1
theorem qans_no {x : I3} {u2 : Int32} (h : u2.toInt < 0 ∨ 4 < u2.toInt) : qans x u2 = (-1 : Int32) := by
  unfold qans
  rw [if_neg (show ¬ u2.toInt = 0 by omega), if_neg (show ¬ u2.toInt = 1 by omega), if_neg (show ¬ u2.toInt = 2 by omega), if_neg (show ¬ u2.toInt = 3 by omega), if_neg (show ¬ u2.toInt = 4 by omega)]
theorem HL_0 {a37 : Nat → Int32} : HL a37 0 [] := ⟨c0, fun k c h => by cases h⟩
theorem R_quarrel {u0 u1 u2 i1 i17 i18 i19 i20 i21 i22 i23 i24 i25 i26 i27 i29 m19 m20 m21 : Int32} {a36 a37 b28 b29 : Nat → Int32} {ptn : Nat} {ptc : Nat → Int32} (hv : 0 ≤ i3.toInt ∧ i3.toInt ≤ 60) (h6 : 0 ≤ i6.toInt ∧ i6.toInt ≤ 6) (h9 : 0 ≤ i9.toInt ∧ i9.toInt ≤ 20) (hV : VRS i3 a7 b2) (hM : MES i3 a8 b3) (hP : PPL i6 a13 b8) (hL : LAW i9 a18 a19 a20 a21 a22 a23 a24 a25 b15 b16 b17 b18 b19 b20 b21 b22) (hK : KI i9 b18 b19 b20 b21 b22) (hR : RWS r9n r9c b4 b5) (hC : RCC i9 a21 a26 rtn rtc b23 b24 b25 b26) :
    (F_x11_quarrel u0 u1 u2 i1 i3 i6 i9 i17 i18 i19 i20 i21 i22 i23 i24 i25 i26 i27 i29 a7 a8 a13 a18 a19 a20 a21 a22 a23 a24 a25 a26 a36 a37 r9n r9c rtn rtc ptn ptc).1 = (F_m12_quarrel u0 u1 u2 i1 i3 i6 i9 m19 m20 m21 b2 b3 b4 b5 b8 b15 b16 b17 b18 b19 b20 b21 b22 b23 b24 b25 b26 b28 b29).1 := by
  rcases xhas (u := u0) (i3 := i3) with ⟨h1, h⟩ | ⟨h1, h⟩
  · rcases mver (u := u0) (i2 := i3) hv.1 with ⟨_, gg⟩ | ⟨gg1, _⟩
    · by_cases w1 : u1.toInt < 0
      · rw [E_x11_quarrel, E_m12_quarrel, h, gg, if_neg n10, if_neg n10, if_pos w1, if_pos w1]
      · obtain ⟨w, hw⟩ : ∃ w : Nat, u0.toInt = (w : Int) := ⟨u0.toInt.toNat, by omega⟩
        obtain ⟨z20, q2, ea⟩ := aim_of (u0 := u0) (u1 := i1) hw (by omega) hv h6 h9 hV hM hP hL hK hR
        obtain ⟨n, f, er, hn, ht, hf⟩ := src_of (u0 := u0) (i1 := i1) hw (by omega) hv h6 h9 hV hM hP hL hK hR
        have hm : 16 * i9.toInt = (((16 * i9.toInt.toNat) : Nat) : Int) := by omega
        obtain ⟨y, d28, d29, r1, r2⟩ := mq6 (v := u0) (day := i1) (wt := u1) (cp := F_m12_copyOf u0 i1 i6 i9 b2 b4 b8 b15 b16 b17 b18 b19 b20 b21) (n := n) (w := (16 * i9.toInt.toNat)) (f32 := f) h9 hL hC rfl ht hn hm hf n 9 0 0 0 m19 m20 m21 b28 b29 c0 (by omega) (by omega) (by decide) (by rw [c0]; omega)
        obtain ⟨j25, j26, j27, c37, qtn, qtc, g1, g2⟩ := xg20 (z20 := z20) (z21 := F_m12_copyOf u0 i1 i6 i9 b2 b4 b8 b15 b16 b17 b18 b19 b20 b21) (b2 := b2) (b3 := b3) (b4 := b4) (b8 := b8) hn h9 hL hC q2 i9.toInt.toNat 22 0 0 i25 i26 0 a37 ptn ptc [] c0 (by omega) (by omega) HL_0 (by show 0 + 16 * i9.toInt.toNat ≤ 320; omega)
        have g3 : HL c37 j27 (WF (gB u0 i1 i6 i9 b2 b3 b4 b8 b15 b16 b17 b18 b19 b20 b21 b23 b24 b25 b26 n f) (16 * i9.toInt.toNat) 0) := g2
        have hO := hw_ok (v := u0) (day := i1) (i6 := i6) (i9 := i9) (b2 := b2) (b3 := b3) (b4 := b4) (b8 := b8) (b15 := b15) (b16 := b16) (b17 := b17) (b18 := b18) (b19 := b19) (b20 := b20) (b21 := b21) (b23 := b23) (b24 := b24) (b25 := b25) (b26 := b26) (n2 := n) (f2 := f) hm
        have hl : (WF (gB u0 i1 i6 i9 b2 b3 b4 b8 b15 b16 b17 b18 b19 b20 b21 b23 b24 b25 b26 n f) (16 * i9.toInt.toNat) 0).length ≤ 320 := by
          have := WF_len (hw := gB u0 i1 i6 i9 b2 b3 b4 b8 b15 b16 b17 b18 b19 b20 b21 b23 b24 b25 b26 n f) (16 * i9.toInt.toNat) 0
          omega
        have S9 := xs69 (wt := u1) (i17 := u0) (i18 := i1) (i19 := F_m12_companyOf u0 i6 b2 b8) (i20 := z20) (i21 := F_m12_copyOf u0 i1 i6 i9 b2 b4 b8 b15 b16 b17 b18 b19 b20 b21) (i22 := F_m12_tokensOf u0 i1 i6 i9 b2 b4 b8 b15 b16 b17 b18 b19 b20 b21) (i23 := b2 u0.toNatClampNeg) (i24 := b3 u0.toNatClampNeg) (i25 := j25) (i26 := j26) (f32 := f) (ptn := qtn) (ptc := qtc) h9 hL g3 hO hl hn n 202 0 0 0 a36 c0 (by omega) (by omega) (by decide) (by rw [c0]; omega)
        have eW : WF (gB u0 i1 i6 i9 b2 b3 b4 b8 b15 b16 b17 b18 b19 b20 b21 b23 b24 b25 b26 n f) (16 * i9.toInt.toNat) 0 = (WF (hwB 119 u0 i1 i6 i9 b2 b3 b4 b8 b15 b16 b17 b18 b19 b20 b21 b23 b24 b25 b26) (16 * i9.toInt.toNat) 0).filter (spB b19 b20 b21 f n 0) := WF_filter (hw := hwB 119 u0 i1 i6 i9 b2 b3 b4 b8 b15 b16 b17 b18 b19 b20 b21 b23 b24 b25 b26) (sp := spB b19 b20 b21 f n 0) (16 * i9.toInt.toNat) 0
        have eL : qrl (mtB b19 b20 b21) b22 f (WF (gB u0 i1 i6 i9 b2 b3 b4 b8 b15 b16 b17 b18 b19 b20 b21 b23 b24 b25 b26 n f) (16 * i9.toInt.toNat) 0) n 0 = qrl (mtB b19 b20 b21) b22 f (WF (hwB 119 u0 i1 i6 i9 b2 b3 b4 b8 b15 b16 b17 b18 b19 b20 b21 b23 b24 b25 b26) (16 * i9.toInt.toNat) 0) n 0 := by
          rw [eW]
          exact qrl_f n 0 (fun c k _ k2 k3 => spB_y n 0 k (Nat.zero_le _) k2 k3)
        rw [eL] at S9
        have hG : F_x1_gatherHeld u0 i1 n f i3 i6 i9 i25 i26 a7 a8 a13 a18 a19 a20 a21 a22 a23 a24 a25 a26 a37 r9n r9c rtn rtc ptn ptc = (u0, i1, F_m12_companyOf u0 i6 b2 b8, z20, F_m12_copyOf u0 i1 i6 i9 b2 b4 b8 b15 b16 b17 b18 b19 b20 b21, F_m12_tokensOf u0 i1 i6 i9 b2 b4 b8 b15 b16 b17 b18 b19 b20 b21, b2 u0.toNatClampNeg, b3 u0.toNatClampNeg, j25, j26, j27, c37, qtn, qtc) := by
          rw [E_x1_gatherHeld, ea]
          exact g1
        have hS : F_x1_seekQuarrel u0 i1 u1 i3 i6 i9 i25 i26 a7 a8 a13 a18 a19 a20 a21 a22 a23 a24 a25 a26 a36 a37 r9n r9c rtn rtc ptn ptc = f_x1_seekQuarrel_j69 u1 a23 a24 a25 n f u0 i1 (F_m12_companyOf u0 i6 b2 b8) z20 (F_m12_copyOf u0 i1 i6 i9 b2 b4 b8 b15 b16 b17 b18 b19 b20 b21) (F_m12_tokensOf u0 i1 i6 i9 b2 b4 b8 b15 b16 b17 b18 b19 b20 b21) (b2 u0.toNatClampNeg) (b3 u0.toNatClampNeg) j25 j26 j27 c37 qtn qtc 202 0 0 a36 := by
          rw [E_x1_seekQuarrel, ea]
          dsimp only
          rw [show F_x6_firstCopy (F_m12_copyOf u0 i1 i6 i9 b2 b4 b8 b15 b16 b17 b18 b19 b20 b21) = F_m12_copyOf u0 i1 i6 i9 b2 b4 b8 b15 b16 b17 b18 b19 b20 b21 from rfl, er]
          dsimp only
          rw [hG]
        generalize qrl (mtB b19 b20 b21) b22 f (WF (hwB 119 u0 i1 i6 i9 b2 b3 b4 b8 b15 b16 b17 b18 b19 b20 b21 b23 b24 b25 b26) (16 * i9.toInt.toNat) 0) n 0 = L at r1 r2 S9
        have hQ : F_m12_quarrelsOf u0 u1 i1 i6 i9 m19 m20 m21 b2 b3 b4 b5 b8 b15 b16 b17 b18 b19 b20 b21 b22 b23 b24 b25 b26 b28 b29 = (y, (fnd u1.toInt (0 : Int32).toInt L (m19, m20, m21)).1, (fnd u1.toInt (0 : Int32).toInt L (m19, m20, m21)).2.1, (fnd u1.toInt (0 : Int32).toInt L (m19, m20, m21)).2.2, d28, d29) := by
          rw [E_m12_quarrelsOf]
          exact r1
        rw [mqans hQ gg w1, E_x11_quarrel, h, if_neg n10, if_neg w1]
        clear r1 hQ g1 g2 g3 hO hl eW eL hG ea er ht hf
        rcases S9 with ⟨x, c36, s, k1, k2⟩ | ⟨k1, s, k2⟩
        · have e1 := fnd_skp _ _ (m19, m20, m21) x k1
          obtain ⟨_, e3⟩ := skp_some _ _ _ k1
          rw [e1]
          by_cases w2 : u2.toInt < 0
          · rw [if_pos w2, qans_no (Or.inl w2), ite_self]
          · rw [if_neg w2]
            by_cases w4 : u2.toInt ≤ 4
            · rw [if_pos w4, hS, k2]
              dsimp only
              rw [if_neg n10, if_pos (show y.toInt > u1.toInt by omega)]
              exact told_q w2 w4
            · rw [if_neg w4, qans_no (Or.inr (by omega)), ite_self]
        · have e3 := skp_none _ _ (by rw [c0]; omega) k1
          rw [if_neg (show ¬ y.toInt > u1.toInt by omega)]
          by_cases w2 : u2.toInt < 0
          · rw [if_pos w2]
          · rw [if_neg w2]
            by_cases w4 : u2.toInt ≤ 4
            · rw [if_pos w4, hS, k2]
              dsimp only
              rw [if_pos y00]
            · rw [if_neg w4]
    · exact absurd h1 gg1
  · rcases mver (u := u0) (i2 := i3) hv.1 with ⟨gg1, _⟩ | ⟨_, gg⟩
    · exact absurd gg1 h1
    · rw [E_x11_quarrel, E_m12_quarrel, h, gg, if_pos y00, if_pos y00]
end QQ
