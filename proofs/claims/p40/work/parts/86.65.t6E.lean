/-! UNLIKE twos on both sides -/
section UNR
variable {v day i3 i6 i9 cu : Int32} {a7 a8 a13 a18 a19 a20 a21 a22 a23 a24 a25 a26 b2 b3 b4 b8 b15 b16 b17 b18 b19 b20 b21 b22 b23 b24 b25 b26 b5 : Nat → Int32} {r9n rtn : Nat → Nat} {r9c rtc : Nat → Nat → Int32} {c : Nat}
variable {wt i10 : Int32} {a29 a36 a38 a39 a40 b28 b29 b33 b34 b35 b36 b37 b38 b39 b40 b41 b42 b54 : Nat → Int32} {l41 : Nat → Int64} {ptn : Nat} {ptc : Nat → Int32} {og : Nat → Nat → Int32} {ogn : Nat → Nat → Nat} {ogc : Nat → Nat → Nat → Int32}
/-- two places are UNLIKE -/
def UB (ogn : Nat → Nat → Nat) (ogc : Nat → Nat → Nat → Int32) (rr : Nat → Nat) (H : Nat → Nat → Bool) (N : Nat) (a b : PL) : Bool :=
  decide ((ogc 3 (rr a.1) a.2).toInt = (ogc 3 (rr b.1) b.2).toInt ∧ (ogc 3 (rr a.1) (a.2 + 1)).toInt = (ogc 3 (rr b.1) (b.2 + 1)).toInt) && (!decide (tw ogn ogc (rr a.1) (a.2 : Int) = tw ogn ogc (rr b.1) (b.2 : Int) ∧ tw ogn ogc (rr a.1) ((a.2 : Int) + 1) = tw ogn ogc (rr b.1) ((b.2 : Int) + 1)) && bothB (H a.1) (H b.1) N 0)
theorem UB_iff {rr : Nat → Nat} {H : Nat → Nat → Bool} {N : Nat} {a b : PL} : UB ogn ogc rr H N a b = true ↔ ((ogc 3 (rr a.1) a.2).toInt = (ogc 3 (rr b.1) b.2).toInt ∧ (ogc 3 (rr a.1) (a.2 + 1)).toInt = (ogc 3 (rr b.1) (b.2 + 1)).toInt) ∧ ¬ (tw ogn ogc (rr a.1) (a.2 : Int) = tw ogn ogc (rr b.1) (b.2 : Int) ∧ tw ogn ogc (rr a.1) ((a.2 : Int) + 1) = tw ogn ogc (rr b.1) ((b.2 : Int) + 1)) ∧ bothB (H a.1) (H b.1) N 0 = true := by
  unfold UB
  rw [Bool.and_eq_true, Bool.and_eq_true, decide_eq_true_iff, Bool.not_eq_true', decide_eq_false_iff_not]
/-- what is FIXED of a VERSE, as the class finds it -/
theorem fxa_of {x : Int32} {w : Nat} (hF : FXD i10 a29 b34 b35) (hx : x.toInt = (w : Int)) (hw : w < 60) : (F_x8_fixedAt x i10 a29 = 0 ∧ (a29 w).toInt = -1) ∨ ∃ r : Nat, (r : Int) < i10.toInt ∧ F_x8_fixedAt x i10 a29 = r + 1 ∧ (a29 w).toInt = (r : Int) ∧ (b34 r).toInt = (w : Int) := by
  rw [E_x8_fixedAt, fn_of hx hw]
  rcases hF w hw with ⟨h1, _⟩ | ⟨r, r1, r2, r3, _, _⟩
  · rcases xat (u := a29 w) (i10 := i10) with ⟨_, e⟩ | ⟨q, q1, _, _⟩
    · rw [e, if_pos rfl]; exact Or.inl ⟨rfl, h1⟩
    · omega
  · rcases xat (u := a29 w) (i10 := i10) with ⟨g, _⟩ | ⟨q, q1, q2, e⟩
    · exact absurd ⟨by omega, by omega⟩ g
    · rw [e, if_neg (Nat.succ_ne_zero q), Nat.add_sub_cancel]
      exact Or.inr ⟨r, r1, by omega, r2, r3⟩
/-- the reference's question -/
theorem mU_of {p0 p1 p2 p3 : Int32} {r q p u v w : Nat} (h9 : 0 ≤ i9.toInt ∧ i9.toInt ≤ 20) (hL : LAW i9 a18 a19 a20 a21 a22 a23 a24 a25 b15 b16 b17 b18 b19 b20 b21 b22) (hC : RCC i9 a21 a26 rtn rtc b23 b24 b25 b26) (hN : RNC i10 og ogn ogc b33 b34 b36 b37 b38 b39 b40 b41 b42) (hF : FXD i10 a29 b34 b35) (h10 : 0 ≤ i10.toInt ∧ i10.toInt ≤ 200) (e0 : p0.toInt = (r : Int)) (e2 : p2.toInt = (q : Int)) (hr : (r : Int) < i10.toInt) (hq : (q : Int) < i10.toInt) (e1 : p1.toInt = (p : Int)) (e3 : p3.toInt = (u : Int)) (hp : p + 1 < ogn 3 r) (hu : u + 1 < ogn 3 q) (hv : (b34 r).toInt = (v : Int)) (hw : (b34 q).toInt = (w : Int)) (b28 b29 : Nat → Int32) {rr : Nat → Nat} (h1 : rr v = r) (h2 : rr w = q) :
    ∃ d28 d29 : Nat → Int32, F_m12_isUnlike p0 p1 p2 p3 day i6 i9 b2 b3 b4 b8 b15 b16 b17 b18 b19 b20 b21 b23 b24 b25 b26 b28 b29 b34 b39 b40 b41 b42 = ((if UB ogn ogc rr (fun w => hwB 115 (Int32.ofNat w) day i6 i9 b2 b3 b4 b8 b15 b16 b17 b18 b19 b20 b21 b23 b24 b25 b26) (16 * i9.toInt.toNat) (v, p) (w, u) = true then 1 else 0), d28, d29) := by
  obtain ⟨_, ⟨_, n8, t1⟩, _⟩ := hN r hr
  obtain ⟨_, ⟨_, m8, t2⟩, _⟩ := hN q hq
  have i1 := toInt_mul sc8 e0 rfl (by omega) (by omega)
  have i2 := toInt_add i1 e1 (by omega) (by omega)
  have i3' := toInt_add i2 c1 (by omega) (by omega)
  have j1 := toInt_mul sc8 e2 rfl (by omega) (by omega)
  have j2 := toInt_add j1 e3 (by omega) (by omega)
  have j3 := toInt_add j2 c1 (by omega) (by omega)
  have s1 := suc_of e1 (by omega)
  have s3 := suc_of e3 (by omega)
  rw [E_m12_isUnlike, nc (p := 8 * r + p) (by omega), nc (p := 8 * q + u) (by omega), nc (p := 8 * r + (p + 1)) (by omega), nc (p := 8 * q + (u + 1)) (by omega), ← t1 p (by omega), ← t2 u (by omega), ← t1 (p + 1) hp, ← t2 (u + 1) hu, ta_of h10.2 hN e0 e2 hr hq, ta_of h10.2 hN e0 e2 hr hq, e1, e3, s1, s3, nc e0, nc e2, oN hv, oN hw]
  obtain ⟨d28, d29, hd⟩ := mb_of (v := Int32.ofNat v) (w := Int32.ofNat w) (day := day) (i6 := i6) (b2 := b2) (b3 := b3) (b4 := b4) (b8 := b8) h9 hL hC b28 b29
  rw [hd]
  dsimp only
  by_cases k1 : (ogc 3 r p).toInt = (ogc 3 q u).toInt
  · rw [if_neg (fun z => z k1)]
    by_cases k2 : (ogc 3 r (p + 1)).toInt = (ogc 3 q (u + 1)).toInt
    · rw [if_pos k2]
      have yes : ¬ (tw ogn ogc r (p : Int) = tw ogn ogc q (u : Int) ∧ tw ogn ogc r ((p : Int) + 1) = tw ogn ogc q ((u : Int) + 1)) → (if bothB ((fun w => hwB 115 (Int32.ofNat w) day i6 i9 b2 b3 b4 b8 b15 b16 b17 b18 b19 b20 b21 b23 b24 b25 b26) v) ((fun w => hwB 115 (Int32.ofNat w) day i6 i9 b2 b3 b4 b8 b15 b16 b17 b18 b19 b20 b21 b23 b24 b25 b26) w) (16 * i9.toInt.toNat) 0 = true then (1 : Int32) else 0) = if UB ogn ogc rr (fun w => hwB 115 (Int32.ofNat w) day i6 i9 b2 b3 b4 b8 b15 b16 b17 b18 b19 b20 b21 b23 b24 b25 b26) (16 * i9.toInt.toNat) (v, p) (w, u) = true then 1 else 0 := by
        intro z
        by_cases k : bothB ((fun w => hwB 115 (Int32.ofNat w) day i6 i9 b2 b3 b4 b8 b15 b16 b17 b18 b19 b20 b21 b23 b24 b25 b26) v) ((fun w => hwB 115 (Int32.ofNat w) day i6 i9 b2 b3 b4 b8 b15 b16 b17 b18 b19 b20 b21 b23 b24 b25 b26) w) (16 * i9.toInt.toNat) 0 = true
        · rw [if_pos k, if_pos (UB_iff.mpr (by rw [h1, h2]; exact ⟨⟨k1, k2⟩, z, k⟩))]
        · rw [if_neg k, if_neg (fun y => k (UB_iff.mp y).2.2)]
      by_cases w1 : tw ogn ogc r (p : Int) = tw ogn ogc q (u : Int)
      · rw [if_pos w1, if_neg n10]
        by_cases w2 : tw ogn ogc r ((p : Int) + 1) = tw ogn ogc q ((u : Int) + 1)
        · rw [if_pos (show tw ogn ogc r ((p + 1 : Nat) : Int) = tw ogn ogc q ((u + 1 : Nat) : Int) from w2), if_neg n10, if_neg (fun y => by have := (UB_iff.mp y).2.1; rw [h1, h2] at this; exact this ⟨w1, w2⟩)]
          exact ⟨b28, b29, rfl⟩
        · rw [if_neg (show ¬ tw ogn ogc r ((p + 1 : Nat) : Int) = tw ogn ogc q ((u + 1 : Nat) : Int) from w2), if_pos y00]
          exact ⟨d28, d29, by rw [← yes (fun z => w2 z.2)]⟩
      · rw [if_neg w1, if_pos y00]
        exact ⟨d28, d29, by rw [← yes (fun z => w1 z.1)]⟩
    · rw [if_neg k2, if_neg (fun y => by have := (UB_iff.mp y).1.2; rw [h1, h2] at this; exact k2 this)]
      exact ⟨b28, b29, rfl⟩
  · rw [if_pos k1, if_neg (fun y => by have := (UB_iff.mp y).1.1; rw [h1, h2] at this; exact k1 this)]
    exact ⟨b28, b29, rfl⟩
theorem sg_inj {a b c d : Int32} (ha : 0 ≤ a.toInt ∧ a.toInt ≤ 255) (hb : 0 ≤ b.toInt ∧ b.toInt ≤ 255) (hc : 0 ≤ c.toInt ∧ c.toInt ≤ 255) (hd : 0 ≤ d.toInt ∧ d.toInt ≤ 255) : (a * (256 : Int32) + b).toInt = (c * (256 : Int32) + d).toInt ↔ a.toInt = c.toInt ∧ b.toInt = d.toInt := by
  have c256 : (256 : Int32).toInt = 256 := by decide
  have e1 := toInt_mul (x := a) rfl c256 rfl (by omega) (by omega)
  have e2 := toInt_add e1 (y := b) rfl (by omega) (by omega)
  have e3 := toInt_mul (x := c) rfl c256 rfl (by omega) (by omega)
  have e4 := toInt_add e3 (y := d) rfl (by omega) (by omega)
  rw [e2, e4]
  constructor
  · intro h; omega
  · intro h; omega
theorem BUN {m22 m23 m24 m25 i17 i18 i19 i20 i21 i22 i23 i24 i25 i26 : Int32} (hv : 0 ≤ i3.toInt ∧ i3.toInt ≤ 60) (h6 : 0 ≤ i6.toInt ∧ i6.toInt ≤ 6) (h9 : 0 ≤ i9.toInt ∧ i9.toInt ≤ 20) (hV : VRS i3 a7 b2) (hM : MES i3 a8 b3) (hP : PPL i6 a13 b8) (hL : LAW i9 a18 a19 a20 a21 a22 a23 a24 a25 b15 b16 b17 b18 b19 b20 b21 b22) (hK : KI i9 b18 b19 b20 b21 b22) (hR : RWS r9n r9c b4 b5) (hC : RCC i9 a21 a26 rtn rtc b23 b24 b25 b26) (hN : RNC i10 og ogn ogc b33 b34 b36 b37 b38 b39 b40 b41 b42) (hF : FXD i10 a29 b34 b35) (h10 : 0 ≤ i10.toInt ∧ i10.toInt ≤ 200) (hT : ∀ j, 0 ≤ (b39 j).toInt ∧ (b39 j).toInt ≤ 255) :
    ∃ (L : List I4) (y : Int32) (d28 d29 c54 : Nat → Int32) (T : R20), F_m12_unlikes wt day i3 i6 i9 i10 m22 m23 m24 m25 b2 b3 b4 b8 b15 b16 b17 b18 b19 b20 b21 b23 b24 b25 b26 b28 b29 b34 b35 b38 b39 b40 b41 b42 b54 = (y, (fnd wt.toInt 0 L (m22, m23, m24, m25)).1, (fnd wt.toInt 0 L (m22, m23, m24, m25)).2.1, (fnd wt.toInt 0 L (m22, m23, m24, m25)).2.2.1, (fnd wt.toInt 0 L (m22, m23, m24, m25)).2.2.2, d28, d29, c54) ∧ y.toInt = (L.length : Int) ∧ F_x1_seekUnlike day wt i3 i6 i9 i10 i17 i18 i19 i20 i21 i22 i23 i24 i25 i26 a7 a8 a13 a18 a19 a20 a21 a22 a23 a25 a26 a29 a36 a38 a39 a40 l41 r9n r9c ogn ogc rtn rtc ptn ptc = T ∧
      ((∃ x : I4, skp wt.toInt 0 L = some x ∧ T.1 = 1 ∧ T.2.2.2.2.2.2.2.2.2.2.2.2.2.1 = FA4 x a36) ∨ (skp wt.toInt 0 L = none ∧ T.1 = 0 ∧ (T.2.2.2.2.2.2.2.2.2.2.2.2.1).toInt = (L.length : Int))) := by
  have e0 : (0 : Int32).toInt = 0 := c0
  -- what is FIXED
  have fxs : ∀ w : Nat, (w : Int) < i3.toInt → ((a29 w).toInt = -1) ∨ ∃ r : Nat, (r : Int) < i10.toInt ∧ (a29 w).toInt = (r : Int) ∧ (b34 r).toInt = (w : Int) := by
    intro w hw
    rcases hF w (by omega) with ⟨h1, _⟩ | ⟨r, r1, r2, r3, _, _⟩
    · exact Or.inl h1
    · exact Or.inr ⟨r, r1, r2, r3⟩
  have npn : ∀ w, (a29 w).toInt = -1 → (fun w => if (a29 w).toInt = -1 then 0 else ogn 3 (a29 w).toNatClampNeg - 1) w = 0 := fun w h => if_pos h
  have npy : ∀ (w r : Nat), (a29 w).toInt = (r : Int) → (fun w => if (a29 w).toInt = -1 then 0 else ogn 3 (a29 w).toNatClampNeg - 1) w = ogn 3 r - 1 := fun w r h => by
    show (if (a29 w).toInt = -1 then 0 else ogn 3 (a29 w).toNatClampNeg - 1) = _
    rw [if_neg (by omega), nc h]
  -- the reference
  have hnp : ∀ w : Nat, (w : Int) < i3.toInt → (fun w => if (a29 w).toInt = -1 then 0 else ogn 3 (a29 w).toNatClampNeg - 1) w ≤ 7 ∧ (((a29 w).toInt = -1 ∧ (fun w => if (a29 w).toInt = -1 then 0 else ogn 3 (a29 w).toNatClampNeg - 1) w = 0) ∨ (¬ (a29 w).toInt = -1 ∧ (((b38 (a29 w).toNatClampNeg) - (1 : Int32)).toInt = ((fun w => if (a29 w).toInt = -1 then 0 else ogn 3 (a29 w).toNatClampNeg - 1) w : Int) ∨ (((b38 (a29 w).toNatClampNeg) - (1 : Int32)).toInt < 0 ∧ (fun w => if (a29 w).toInt = -1 then 0 else ogn 3 (a29 w).toNatClampNeg - 1) w = 0)))) := by
    intro w hw
    rcases fxs w hw with h | ⟨r, r1, r2, _⟩
    · rw [npn w h]; exact ⟨by omega, Or.inl ⟨h, rfl⟩⟩
    · obtain ⟨_, ⟨n1, n8, _⟩, _⟩ := hN r r1
      have es := toInt_sub n1 c1 (by omega) (by omega)
      rw [npy w r r2, nc r2]
      refine ⟨by omega, Or.inr ⟨by omega, ?_⟩⟩
      by_cases z : ogn 3 r = 0
      · exact Or.inr ⟨by omega, by omega⟩
      · exact Or.inl (by omega)
  have hU : ∀ (v p : Nat) (x29 : Int32), x29.toInt = (p : Int) → (v : Int) < i3.toInt → p < (fun w => if (a29 w).toInt = -1 then 0 else ogn 3 (a29 w).toNatClampNeg - 1) v → ∀ (w u : Nat) (x66 : Int32) (b28 b29 : Nat → Int32), (w : Int) < i3.toInt → x66.toInt = (u : Int) → u < (fun w => if (a29 w).toInt = -1 then 0 else ogn 3 (a29 w).toNatClampNeg - 1) w → ∃ d28 d29 : Nat → Int32, F_m12_isUnlike (a29 v) x29 (a29 w) x66 day i6 i9 b2 b3 b4 b8 b15 b16 b17 b18 b19 b20 b21 b23 b24 b25 b26 b28 b29 b34 b39 b40 b41 b42 = ((if UB ogn ogc (fun w => (a29 w).toNatClampNeg) (fun w => hwB 115 (Int32.ofNat w) day i6 i9 b2 b3 b4 b8 b15 b16 b17 b18 b19 b20 b21 b23 b24 b25 b26) (16 * i9.toInt.toNat) (v, p) (w, u) = true then 1 else 0), d28, d29) := by
    intro v p x29 hx hv1 hp w u x66 c28 c29 hw1 hx66 hu
    rcases fxs v hv1 with h | ⟨r, r1, r2, r3⟩
    · rw [npn v h] at hp; omega
    · rcases fxs w hw1 with h | ⟨q, q1, q2, q3⟩
      · rw [npn w h] at hu; omega
      · rw [npy v r r2] at hp
        rw [npy w q q2] at hu
        exact mU_of h9 hL hC hN hF h10 r2 q2 r1 q1 hx hx66 (by omega) (by omega) r3 q3 c28 c29 (nc r2) (nc q2)
  obtain ⟨y, d28, d29, c54, r1, r2⟩ := mu1 (U := UB ogn ogc (fun w => (a29 w).toNatClampNeg) (fun w => hwB 115 (Int32.ofNat w) day i6 i9 b2 b3 b4 b8 b15 b16 b17 b18 b19 b20 b21 b23 b24 b25 b26) (16 * i9.toInt.toNat)) (np := (fun w => if (a29 w).toInt = -1 then 0 else ogn 3 (a29 w).toNatClampNeg - 1)) (day := day) (i3 := i3) (i6 := i6) (i9 := i9) (b2 := b2) (b3 := b3) (b4 := b4) (b8 := b8) (b15 := b15) (b16 := b16) (b17 := b17) (b18 := b18) (b19 := b19) (b20 := b20) (b21 := b21) (b23 := b23) (b24 := b24) (b25 := b25) (b26 := b26) (wt := wt) (i10 := i10) (fx := a29) (b34 := b34) (b35 := b35) (b38 := b38) (b39 := b39) (b40 := b40) (b41 := b41) (b42 := b42) hv.2 (fun w x hx hw => fo_of hx (by omega) h10 hF) hnp hU i3.toInt.toNat 61 0 0 0 m22 m23 m24 m25 b28 b29 b54 c0 (by omega) (by omega) (by decide) (by rw [c0]; omega)
  have hQ : F_m12_unlikes wt day i3 i6 i9 i10 m22 m23 m24 m25 b2 b3 b4 b8 b15 b16 b17 b18 b19 b20 b21 b23 b24 b25 b26 b28 b29 b34 b35 b38 b39 b40 b41 b42 b54 = (y, (fnd wt.toInt 0 (prs (UB ogn ogc (fun w => (a29 w).toNatClampNeg) (fun w => hwB 115 (Int32.ofNat w) day i6 i9 b2 b3 b4 b8 b15 b16 b17 b18 b19 b20 b21 b23 b24 b25 b26) (16 * i9.toInt.toNat)) (plc (fun w => if (a29 w).toInt = -1 then 0 else ogn 3 (a29 w).toNatClampNeg - 1) i3.toInt.toNat 0)) (m22, m23, m24, m25)).1, (fnd wt.toInt 0 (prs (UB ogn ogc (fun w => (a29 w).toNatClampNeg) (fun w => hwB 115 (Int32.ofNat w) day i6 i9 b2 b3 b4 b8 b15 b16 b17 b18 b19 b20 b21 b23 b24 b25 b26) (16 * i9.toInt.toNat)) (plc (fun w => if (a29 w).toInt = -1 then 0 else ogn 3 (a29 w).toNatClampNeg - 1) i3.toInt.toNat 0)) (m22, m23, m24, m25)).2.1, (fnd wt.toInt 0 (prs (UB ogn ogc (fun w => (a29 w).toNatClampNeg) (fun w => hwB 115 (Int32.ofNat w) day i6 i9 b2 b3 b4 b8 b15 b16 b17 b18 b19 b20 b21 b23 b24 b25 b26) (16 * i9.toInt.toNat)) (plc (fun w => if (a29 w).toInt = -1 then 0 else ogn 3 (a29 w).toNatClampNeg - 1) i3.toInt.toNat 0)) (m22, m23, m24, m25)).2.2.1, (fnd wt.toInt 0 (prs (UB ogn ogc (fun w => (a29 w).toNatClampNeg) (fun w => hwB 115 (Int32.ofNat w) day i6 i9 b2 b3 b4 b8 b15 b16 b17 b18 b19 b20 b21 b23 b24 b25 b26) (16 * i9.toInt.toNat)) (plc (fun w => if (a29 w).toInt = -1 then 0 else ogn 3 (a29 w).toNatClampNeg - 1) i3.toInt.toNat 0)) (m22, m23, m24, m25)).2.2.2, d28, d29, c54) := by
    rw [E_m12_unlikes]; exact r1
  -- the class
  have hfx : ∀ (w : Nat) (x : Int32), x.toInt = (w : Int) → (w : Int) < i3.toInt → (F_x8_fixedAt x i10 a29 = 0 ∧ (a29 w).toInt = -1 ∧ (fun w => if (a29 w).toInt = -1 then 0 else ogn 3 (a29 w).toNatClampNeg - 1) w = 0) ∨ (∃ r : Nat, F_x8_fixedAt x i10 a29 = r + 1 ∧ (a29 w).toInt = (r : Int) ∧ ogn 3 r ≤ 8 ∧ (fun w => if (a29 w).toInt = -1 then 0 else ogn 3 (a29 w).toNatClampNeg - 1) w = ogn 3 r - 1 ∧ ∀ p, p + 1 < ogn 3 r → (fun a => ogc 3 (a29 a.1).toNatClampNeg a.2 * (256 : Int32) + ogc 3 (a29 a.1).toNatClampNeg (a.2 + 1)) (w, p) = ogc 3 r p * (256 : Int32) + ogc 3 r (p + 1)) := by
    intro w x hx hw
    rcases fxa_of hF hx (by omega) with ⟨h1, h2⟩ | ⟨r, r1, r2, r3, _⟩
    · exact Or.inl ⟨h1, h2, npn w h2⟩
    · obtain ⟨_, ⟨_, n8, _⟩, _⟩ := hN r r1
      refine Or.inr ⟨r, r2, r3, n8, npy w r r3, fun p _ => ?_⟩
      show ogc 3 (a29 w).toNatClampNeg p * (256 : Int32) + ogc 3 (a29 w).toNatClampNeg (p + 1) = _
      rw [nc r3]
  obtain ⟨j17, j18, j19, j20, j21, j22, j23, j24, j25, j26, j28, c38, c39, c40, l', qtn, qtc, x1, x2, x3⟩ := xu1 (wt := wt) (i10 := i10) (a29 := a29) (a36 := a36) (ogn := ogn) (ogc := ogc) (np := (fun w => if (a29 w).toInt = -1 then 0 else ogn 3 (a29 w).toNatClampNeg - 1)) (sg := (fun a => ogc 3 (a29 a.1).toNatClampNeg a.2 * (256 : Int32) + ogc 3 (a29 a.1).toNatClampNeg (a.2 + 1))) h9 hL hC hv h6 hV hM hP hK hR hfx i3.toInt.toNat 61 0 0 i17 i18 i19 i20 i21 i22 i23 i24 i25 i26 0 a38 a39 a40 l41 ptn ptc [] c0 (by omega) (by omega) ⟨c0, fun k a h => by cases h⟩ (by show 0 + 7 * i3.toInt.toNat ≤ 420; omega) (fun w h => absurd h (by omega))
  have x2' : PLH j28 c38 c39 c40 (fun a => ogc 3 (a29 a.1).toNatClampNeg a.2 * (256 : Int32) + ogc 3 (a29 a.1).toNatClampNeg (a.2 + 1)) (plc (fun w => if okB day i6 i9 b2 b3 b4 b8 b15 b16 b17 b18 b19 b20 b21 b23 b24 b25 b26 w = true then (fun w => if (a29 w).toInt = -1 then 0 else ogn 3 (a29 w).toNatClampNeg - 1) w else 0) i3.toInt.toNat 0) := x2
  have eo : (plc (fun w => if okB day i6 i9 b2 b3 b4 b8 b15 b16 b17 b18 b19 b20 b21 b23 b24 b25 b26 w = true then (fun w => if (a29 w).toInt = -1 then 0 else ogn 3 (a29 w).toNatClampNeg - 1) w else 0) i3.toInt.toNat 0) = (plc (fun w => if (a29 w).toInt = -1 then 0 else ogn 3 (a29 w).toNatClampNeg - 1) i3.toInt.toNat 0).filter (fun a => okB day i6 i9 b2 b3 b4 b8 b15 b16 b17 b18 b19 b20 b21 b23 b24 b25 b26 a.1) := plc_f i3.toInt.toNat 0
  have hsp : ∀ a b, UB ogn ogc (fun w => (a29 w).toNatClampNeg) (fun w => hwB 115 (Int32.ofNat w) day i6 i9 b2 b3 b4 b8 b15 b16 b17 b18 b19 b20 b21 b23 b24 b25 b26) (16 * i9.toInt.toNat) a b = true → okB day i6 i9 b2 b3 b4 b8 b15 b16 b17 b18 b19 b20 b21 b23 b24 b25 b26 a.1 = true ∧ okB day i6 i9 b2 b3 b4 b8 b15 b16 b17 b18 b19 b20 b21 b23 b24 b25 b26 b.1 = true := by
    intro a b h
    obtain ⟨k, _, k2, k3, k4⟩ := (both_iff _ 0).mp (UB_iff.mp h).2.2
    exact ⟨(both_iff _ 0).mpr ⟨k, Nat.zero_le _, k2, k3, k3⟩, (both_iff _ 0).mpr ⟨k, Nat.zero_le _, k2, k4, k4⟩⟩
  have ep : prs (UB ogn ogc (fun w => (a29 w).toNatClampNeg) (fun w => hwB 115 (Int32.ofNat w) day i6 i9 b2 b3 b4 b8 b15 b16 b17 b18 b19 b20 b21 b23 b24 b25 b26) (16 * i9.toInt.toNat)) (plc (fun w => if okB day i6 i9 b2 b3 b4 b8 b15 b16 b17 b18 b19 b20 b21 b23 b24 b25 b26 w = true then (fun w => if (a29 w).toInt = -1 then 0 else ogn 3 (a29 w).toNatClampNeg - 1) w else 0) i3.toInt.toNat 0) = prs (UB ogn ogc (fun w => (a29 w).toNatClampNeg) (fun w => hwB 115 (Int32.ofNat w) day i6 i9 b2 b3 b4 b8 b15 b16 b17 b18 b19 b20 b21 b23 b24 b25 b26) (16 * i9.toInt.toNat)) (plc (fun w => if (a29 w).toInt = -1 then 0 else ogn 3 (a29 w).toNatClampNeg - 1) i3.toInt.toNat 0) := by rw [eo]; exact prs_f (sp := fun a => okB day i6 i9 b2 b3 b4 b8 b15 b16 b17 b18 b19 b20 b21 b23 b24 b25 b26 a.1) hsp _
  have hlen : (plc (fun w => if okB day i6 i9 b2 b3 b4 b8 b15 b16 b17 b18 b19 b20 b21 b23 b24 b25 b26 w = true then (fun w => if (a29 w).toInt = -1 then 0 else ogn 3 (a29 w).toNatClampNeg - 1) w else 0) i3.toInt.toNat 0).length ≤ 420 := by
    have := plc_len (np := fun w => if okB day i6 i9 b2 b3 b4 b8 b15 b16 b17 b18 b19 b20 b21 b23 b24 b25 b26 w = true then (fun w => if (a29 w).toInt = -1 then 0 else ogn 3 (a29 w).toNatClampNeg - 1) w else 0) (B := 7) i3.toInt.toNat 0 (fun k _ k2 => by
      show (if okB day i6 i9 b2 b3 b4 b8 b15 b16 b17 b18 b19 b20 b21 b23 b24 b25 b26 k = true then (fun w => if (a29 w).toInt = -1 then 0 else ogn 3 (a29 w).toNatClampNeg - 1) k else 0) ≤ 7
      have := (hnp k (by omega)).1
      split <;> omega)
    omega
  have mem : ∀ (ia : Nat) (a : PL), (plc (fun w => if okB day i6 i9 b2 b3 b4 b8 b15 b16 b17 b18 b19 b20 b21 b23 b24 b25 b26 w = true then (fun w => if (a29 w).toInt = -1 then 0 else ogn 3 (a29 w).toNatClampNeg - 1) w else 0) i3.toInt.toNat 0)[ia]? = some a → (a.1 : Int) < i3.toInt ∧ ∃ r : Nat, (r : Int) < i10.toInt ∧ (a29 a.1).toInt = (r : Int) ∧ (b34 r).toInt = (a.1 : Int) ∧ a.2 + 1 < ogn 3 r := by
    intro ia a ha
    obtain ⟨m1, m2, m3⟩ := plc_mem i3.toInt.toNat 0 a (List.mem_of_getElem? ha)
    have m3 : a.2 < (if okB day i6 i9 b2 b3 b4 b8 b15 b16 b17 b18 b19 b20 b21 b23 b24 b25 b26 a.1 = true then (fun w => if (a29 w).toInt = -1 then 0 else ogn 3 (a29 w).toNatClampNeg - 1) a.1 else 0) := m3
    have hlt : (a.1 : Int) < i3.toInt := by omega
    refine ⟨hlt, ?_⟩
    rcases fxs a.1 hlt with h | ⟨r, q1, q2, q3⟩
    · rw [npn a.1 h] at m3; split at m3 <;> omega
    · rw [npy a.1 r q2] at m3
      refine ⟨r, q1, q2, q3, ?_⟩
      split at m3 <;> omega
  have tok : ∀ (r p : Nat), (r : Int) < i10.toInt → p < ogn 3 r → 0 ≤ (ogc 3 r p).toInt ∧ (ogc 3 r p).toInt ≤ 255 := by
    intro r p hr hp
    obtain ⟨_, ⟨_, _, t⟩, _⟩ := hN r hr
    rw [t p hp]; exact hT _
  have hI : ∀ (x : Int32) (ia : Nat) (a : PL), x.toInt = (ia : Int) → (plc (fun w => if okB day i6 i9 b2 b3 b4 b8 b15 b16 b17 b18 b19 b20 b21 b23 b24 b25 b26 w = true then (fun w => if (a29 w).toInt = -1 then 0 else ogn 3 (a29 w).toNatClampNeg - 1) w else 0) i3.toInt.toNat 0)[ia]? = some a → ∀ (y : Int32) (ib : Nat) (b : PL), y.toInt = (ib : Int) → (plc (fun w => if okB day i6 i9 b2 b3 b4 b8 b15 b16 b17 b18 b19 b20 b21 b23 b24 b25 b26 w = true then (fun w => if (a29 w).toInt = -1 then 0 else ogn 3 (a29 w).toNatClampNeg - 1) w else 0) i3.toInt.toNat 0)[ib]? = some b → (((fun a => ogc 3 (a29 a.1).toNatClampNeg a.2 * (256 : Int32) + ogc 3 (a29 a.1).toNatClampNeg (a.2 + 1)) a).toInt = ((fun a => ogc 3 (a29 a.1).toNatClampNeg a.2 * (256 : Int32) + ogc 3 (a29 a.1).toNatClampNeg (a.2 + 1)) b).toInt → F_x1_isUnlike x y i10 a29 c38 c39 l' ogn ogc = if UB ogn ogc (fun w => (a29 w).toNatClampNeg) (fun w => hwB 115 (Int32.ofNat w) day i6 i9 b2 b3 b4 b8 b15 b16 b17 b18 b19 b20 b21 b23 b24 b25 b26) (16 * i9.toInt.toNat) a b = true then 1 else 0) ∧ (¬ ((fun a => ogc 3 (a29 a.1).toNatClampNeg a.2 * (256 : Int32) + ogc 3 (a29 a.1).toNatClampNeg (a.2 + 1)) a).toInt = ((fun a => ogc 3 (a29 a.1).toNatClampNeg a.2 * (256 : Int32) + ogc 3 (a29 a.1).toNatClampNeg (a.2 + 1)) b).toInt → ¬ UB ogn ogc (fun w => (a29 w).toNatClampNeg) (fun w => hwB 115 (Int32.ofNat w) day i6 i9 b2 b3 b4 b8 b15 b16 b17 b18 b19 b20 b21 b23 b24 b25 b26) (16 * i9.toInt.toNat) a b = true) := by
    intro x ia a hx ha y ib b hy hb
    obtain ⟨v, p⟩ := a
    obtain ⟨w, u⟩ := b
    obtain ⟨A1, A2, _⟩ := x2'.2 ia (v, p) ha
    obtain ⟨B1, B2, _⟩ := x2'.2 ib (w, u) hb
    obtain ⟨va, r, ra, rb, rc, rd⟩ := mem ia (v, p) ha
    obtain ⟨wa, q, qa, qb, qc, qd⟩ := mem ib (w, u) hb
    have va : (v : Int) < i3.toInt := va
    have wa : (w : Int) < i3.toInt := wa
    have rb : (a29 v).toInt = (r : Int) := rb
    have qb : (a29 w).toInt = (q : Int) := qb
    have rd : p + 1 < ogn 3 r := rd
    have qd : u + 1 < ogn 3 q := qd
    have iff1 : ((fun a => ogc 3 (a29 a.1).toNatClampNeg a.2 * (256 : Int32) + ogc 3 (a29 a.1).toNatClampNeg (a.2 + 1)) (v, p)).toInt = ((fun a => ogc 3 (a29 a.1).toNatClampNeg a.2 * (256 : Int32) + ogc 3 (a29 a.1).toNatClampNeg (a.2 + 1)) (w, u)).toInt ↔ (ogc 3 r p).toInt = (ogc 3 q u).toInt ∧ (ogc 3 r (p + 1)).toInt = (ogc 3 q (u + 1)).toInt := by
      show (ogc 3 (a29 v).toNatClampNeg p * (256 : Int32) + ogc 3 (a29 v).toNatClampNeg (p + 1)).toInt = (ogc 3 (a29 w).toNatClampNeg u * (256 : Int32) + ogc 3 (a29 w).toNatClampNeg (u + 1)).toInt ↔ _
      rw [nc rb, nc qb]
      exact sg_inj (tok r p ra (by omega)) (tok r (p + 1) ra rd) (tok q u qa (by omega)) (tok q (u + 1) qa qd)
    have iffU : UB ogn ogc (fun w => (a29 w).toNatClampNeg) (fun w => hwB 115 (Int32.ofNat w) day i6 i9 b2 b3 b4 b8 b15 b16 b17 b18 b19 b20 b21 b23 b24 b25 b26) (16 * i9.toInt.toNat) (v, p) (w, u) = true ↔ ((ogc 3 r p).toInt = (ogc 3 q u).toInt ∧ (ogc 3 r (p + 1)).toInt = (ogc 3 q (u + 1)).toInt) ∧ ¬ (tw ogn ogc r (p : Int) = tw ogn ogc q (u : Int) ∧ tw ogn ogc r ((p : Int) + 1) = tw ogn ogc q ((u : Int) + 1)) ∧ bothB ((fun w => hwB 115 (Int32.ofNat w) day i6 i9 b2 b3 b4 b8 b15 b16 b17 b18 b19 b20 b21 b23 b24 b25 b26) v) ((fun w => hwB 115 (Int32.ofNat w) day i6 i9 b2 b3 b4 b8 b15 b16 b17 b18 b19 b20 b21 b23 b24 b25 b26) w) (16 * i9.toInt.toNat) 0 = true := by
      have h := UB_iff (ogn := ogn) (ogc := ogc) (rr := (fun w => (a29 w).toNatClampNeg)) (H := (fun w => hwB 115 (Int32.ofNat w) day i6 i9 b2 b3 b4 b8 b15 b16 b17 b18 b19 b20 b21 b23 b24 b25 b26)) (N := 16 * i9.toInt.toNat) (a := (v, p)) (b := (w, u))
      rw [h]
      show _ ∧ _ ∧ _ ↔ _
      rw [show (a29 (v, p).1).toNatClampNeg = r from nc rb, show (a29 (w, u).1).toNatClampNeg = q from nc qb]
    constructor
    · intro hs
      have hs2 := iff1.mp hs
      have av : (Int32.ofNat v).toInt = (v : Int) := nI_toInt (by omega)
      have aw : (Int32.ofNat w).toInt = (w : Int) := nI_toInt (by omega)
      have ap : (Int32.ofNat p).toInt = (p : Int) := nI_toInt (by have := (hN r ra).2.1.2.1; omega)
      have au : (Int32.ofNat u).toInt = (u : Int) := nI_toInt (by have := (hN q qa).2.1.2.1; omega)
      have ap1 := suc_of ap (by have := (hN r ra).2.1.2.1; omega)
      have au1 := suc_of au (by have := (hN q qa).2.1.2.1; omega)
      have fv : F_x8_fixedAt (Int32.ofNat v) i10 a29 = r + 1 := by
        rcases fxa_of hF av (by omega) with ⟨_, h2⟩ | ⟨r', _, r2, r3, _⟩
        · omega
        · rw [r2]; omega
      have fw : F_x8_fixedAt (Int32.ofNat w) i10 a29 = q + 1 := by
        rcases fxa_of hF aw (by omega) with ⟨_, h2⟩ | ⟨r', _, r2, r3, _⟩
        · omega
        · rw [r2]; omega
      have s4r := (hN r ra).2.2.2.2.1
      have s4q := (hN q qa).2.2.2.2.1
      rw [E_x1_isUnlike, nc hx, nc hy, A1, A2, B1, B2, fv, fw, if_neg (Nat.succ_ne_zero r), if_neg (Nat.succ_ne_zero q), Nat.add_sub_cancel, Nat.add_sub_cancel, tl_of s4r s4q, tl_of s4r s4q, ap, au, ap1, au1, sc_of (V := v) (W := w) (f := (fun w => hwB 115 (Int32.ofNat w) day i6 i9 b2 b3 b4 b8 b15 b16 b17 b18 b19 b20 b21 b23 b24 b25 b26) v) (g := (fun w => hwB 115 (Int32.ofNat w) day i6 i9 b2 b3 b4 b8 b15 b16 b17 b18 b19 b20 b21 b23 b24 b25 b26) w) av aw (by omega) (by omega) (by omega) (x3 v (by omega) (by omega)) (x3 w (by omega) (by omega))]
      by_cases kb : bothB ((fun w => hwB 115 (Int32.ofNat w) day i6 i9 b2 b3 b4 b8 b15 b16 b17 b18 b19 b20 b21 b23 b24 b25 b26) v) ((fun w => hwB 115 (Int32.ofNat w) day i6 i9 b2 b3 b4 b8 b15 b16 b17 b18 b19 b20 b21 b23 b24 b25 b26) w) (16 * i9.toInt.toNat) 0 = true
      · rw [if_pos kb, if_pos (show (1 : Int32).toInt ≠ 0 by decide)]
        by_cases w1 : tw ogn ogc r (p : Int) = tw ogn ogc q (u : Int)
        · rw [if_pos (show twl (ogc 5 r) (ogc 4 r) (p : Int) (ogn 4 r) 0 = twl (ogc 5 q) (ogc 4 q) (u : Int) (ogn 4 q) 0 from w1), if_neg n10]
          by_cases w2 : tw ogn ogc r ((p : Int) + 1) = tw ogn ogc q ((u : Int) + 1)
          · rw [if_pos (show twl (ogc 5 r) (ogc 4 r) ((p + 1 : Nat) : Int) (ogn 4 r) 0 = twl (ogc 5 q) (ogc 4 q) ((u + 1 : Nat) : Int) (ogn 4 q) 0 from w2), if_pos (show (1 : Int32).toInt ≠ 0 by decide), if_neg (fun z => (iffU.mp z).2.1 ⟨w1, w2⟩)]
          · rw [if_neg (show ¬ twl (ogc 5 r) (ogc 4 r) ((p + 1 : Nat) : Int) (ogn 4 r) 0 = twl (ogc 5 q) (ogc 4 q) ((u + 1 : Nat) : Int) (ogn 4 q) 0 from w2), if_neg (show ¬ ((0 : Int32).toInt ≠ 0) by decide), if_pos (iffU.mpr ⟨hs2, fun z => w2 z.2, kb⟩)]
        · rw [if_neg (show ¬ twl (ogc 5 r) (ogc 4 r) (p : Int) (ogn 4 r) 0 = twl (ogc 5 q) (ogc 4 q) (u : Int) (ogn 4 q) 0 from w1), if_pos y00, if_pos (iffU.mpr ⟨hs2, fun z => w1 z.1, kb⟩)]
      · rw [if_neg kb, if_neg (show ¬ ((0 : Int32).toInt ≠ 0) by decide), if_neg (fun z => kb (iffU.mp z).2.2)]
    · intro hs z
      exact hs (iff1.mpr (iffU.mp z).1)
  have S3 := xu31 (U := UB ogn ogc (fun w => (a29 w).toNatClampNeg) (fun w => hwB 115 (Int32.ofNat w) day i6 i9 b2 b3 b4 b8 b15 b16 b17 b18 b19 b20 b21 b23 b24 b25 b26) (16 * i9.toInt.toNat)) (sg := (fun a => ogc 3 (a29 a.1).toNatClampNeg a.2 * (256 : Int32) + ogc 3 (a29 a.1).toNatClampNeg (a.2 + 1))) (wt := wt) (i10 := i10) (i17 := j17) (i18 := j18) (i19 := j19) (i20 := j20) (i21 := j21) (i22 := j22) (i23 := j23) (i24 := j24) (i25 := j25) (i26 := j26) (a29 := a29) (a36 := a36) (ptn := qtn) (ptc := qtc) x2' hlen hI (plc (fun w => if okB day i6 i9 b2 b3 b4 b8 b15 b16 b17 b18 b19 b20 b21 b23 b24 b25 b26 w = true then (fun w => if (a29 w).toInt = -1 then 0 else ogn 3 (a29 w).toNatClampNeg - 1) w else 0) i3.toInt.toNat 0).length 422 0 0 0 c0 (by omega) (by omega) (by decide) (by rw [c0]; omega)
  rw [List.drop_zero, ep] at S3
  have hX : F_x1_seekUnlike day wt i3 i6 i9 i10 i17 i18 i19 i20 i21 i22 i23 i24 i25 i26 a7 a8 a13 a18 a19 a20 a21 a22 a23 a25 a26 a29 a36 a38 a39 a40 l41 r9n r9c ogn ogc rtn rtc ptn ptc = f_x1_seekUnlike_j31 wt i10 a29 a36 ogn ogc j17 j18 j19 j20 j21 j22 j23 j24 j25 j26 j28 c38 c39 c40 l' qtn qtc 422 0 0 := by
    rw [E_x1_seekUnlike]; exact x1
  rw [e0] at r2 S3
  generalize prs (UB ogn ogc (fun w => (a29 w).toNatClampNeg) (fun w => hwB 115 (Int32.ofNat w) day i6 i9 b2 b3 b4 b8 b15 b16 b17 b18 b19 b20 b21 b23 b24 b25 b26) (16 * i9.toInt.toNat)) (plc (fun w => if (a29 w).toInt = -1 then 0 else ogn 3 (a29 w).toNatClampNeg - 1) i3.toInt.toNat 0) = L at r2 S3 hQ
  refine ⟨L, y, d28, d29, c54, _, hQ, by omega, hX, ?_⟩
  rcases S3 with ⟨x, s, z1, z2⟩ | ⟨z1, s, z2, z3⟩
  · exact Or.inl ⟨x, z1, by rw [z2], by rw [z2]⟩
  · exact Or.inr ⟨z1, by rw [z2], by rw [z2]; show s.toInt = _; omega⟩
def uans (x : I4) (u : Int32) : Int32 := if u.toInt = 0 then x.1 else if u.toInt = 1 then x.2.2.1 else if u.toInt = 2 then x.2.1 else if u.toInt = 3 then x.2.2.2 else (-1 : Int32)
theorem uans_no {x : I4} {u : Int32} (h : u.toInt < 0 ∨ 3 < u.toInt) : uans x u = (-1 : Int32) := by
  unfold uans
  rw [if_neg (show ¬ u.toInt = 0 by omega), if_neg (show ¬ u.toInt = 1 by omega), if_neg (show ¬ u.toInt = 2 by omega), if_neg (show ¬ u.toInt = 3 by omega)]
theorem told_u {x : I4} {u : Int32} {c36 : Nat → Int32} (h0 : ¬ u.toInt < 0) (h3 : u.toInt ≤ 3) : F_x1_told u (FA4 x c36) = uans x u := by
  have e0 : ((0 : Int32)).toNatClampNeg = 0 := by decide
  have e1 : ((1 : Int32)).toNatClampNeg = 1 := by decide
  have e2 : ((2 : Int32)).toNatClampNeg = 2 := by decide
  have e3 : ((3 : Int32)).toNatClampNeg = 3 := by decide
  unfold FA4
  rw [E_x1_told, if_neg h0, if_neg (show ¬ u.toInt ≥ 5 by omega), e0, e1, e2, e3]
  unfold uans
  by_cases k0 : u.toInt = 0
  · rw [if_pos k0, nc (p := 0) k0]; rfl
  · rw [if_neg k0]
    by_cases k1 : u.toInt = 1
    · rw [if_pos k1, nc (p := 1) k1]; rfl
    · rw [if_neg k1]
      by_cases k2 : u.toInt = 2
      · rw [if_pos k2, nc (p := 2) k2]; rfl
      · rw [if_neg k2, if_pos (show u.toInt = 3 by omega), nc (p := 3) (show u.toInt = ((3 : Nat) : Int) by omega)]; rfl
theorem R_unlike {u0 u1 i28 i29 m22 m23 m24 m25 i17 i18 i19 i20 i21 i22 i23 i24 i25 i26 : Int32} (hv : 0 ≤ i3.toInt ∧ i3.toInt ≤ 60) (h6 : 0 ≤ i6.toInt ∧ i6.toInt ≤ 6) (h9 : 0 ≤ i9.toInt ∧ i9.toInt ≤ 20) (hV : VRS i3 a7 b2) (hM : MES i3 a8 b3) (hP : PPL i6 a13 b8) (hL : LAW i9 a18 a19 a20 a21 a22 a23 a24 a25 b15 b16 b17 b18 b19 b20 b21 b22) (hK : KI i9 b18 b19 b20 b21 b22) (hR : RWS r9n r9c b4 b5) (hC : RCC i9 a21 a26 rtn rtc b23 b24 b25 b26) (hN : RNC i10 og ogn ogc b33 b34 b36 b37 b38 b39 b40 b41 b42) (hF : FXD i10 a29 b34 b35) (h10 : 0 ≤ i10.toInt ∧ i10.toInt ≤ 200) (hT : ∀ j, 0 ≤ (b39 j).toInt ∧ (b39 j).toInt ≤ 255) : (F_x11_unlike u0 u1 day i3 i6 i9 i10 i17 i18 i19 i20 i21 i22 i23 i24 i25 i26 i28 i29 a7 a8 a13 a18 a19 a20 a21 a22 a23 a25 a26 a29 a36 a38 a39 a40 l41 r9n r9c ogn ogc rtn rtc ptn ptc).1 = (F_m12_unlike u0 u1 day i3 i6 i9 i10 m22 m23 m24 m25 b2 b3 b4 b8 b15 b16 b17 b18 b19 b20 b21 b23 b24 b25 b26 b28 b29 b34 b35 b38 b39 b40 b41 b42 b54).1 := by
  rw [E_x11_unlike, E_m12_unlike]
  by_cases w1 : u0.toInt < 0
  · rw [if_pos w1, if_pos w1]
  · rw [if_neg w1, if_neg w1]
    obtain ⟨L, y, d28, d29, c54, T, hQ, hy, hX, hh⟩ := BUN (wt := u0) (day := day) (i3 := i3) (i6 := i6) (i9 := i9) (m22 := m22) (m23 := m23) (m24 := m24) (m25 := m25) (i17 := i17) (i18 := i18) (i19 := i19) (i20 := i20) (i21 := i21) (i22 := i22) (i23 := i23) (i24 := i24) (i25 := i25) (i26 := i26) (a36 := a36) (a38 := a38) (a39 := a39) (a40 := a40) (l41 := l41) (b28 := b28) (b29 := b29) (b54 := b54) (ptn := ptn) (ptc := ptc) hv h6 h9 hV hM hP hL hK hR hC hN hF h10 hT
    rw [hQ, hX]
    dsimp only
    have mb : ∀ (f : I4) (Z : Int32 → Int32 × Int32 × Int32 × Int32 × Int32 × (Nat → Int32) × (Nat → Int32) × (Nat → Int32)), (∀ q, (Z q).1 = q) → (if y.toInt > u0.toInt then (if u1.toInt ≠ 0 then (if u1.toInt ≠ 1 then (if u1.toInt ≠ 2 then (if u1.toInt ≠ 3 then Z (-1 : Int32) else Z f.2.2.2) else Z f.2.1) else Z f.2.2.1) else Z f.1) else Z (-1 : Int32)).1 = if y.toInt > u0.toInt then uans f u1 else (-1 : Int32) := by
      intro f Z hZ
      by_cases k : y.toInt > u0.toInt
      · rw [if_pos k, if_pos k]
        unfold uans
        by_cases k0 : u1.toInt = 0
        · rw [if_neg (fun z => z k0), if_pos k0, hZ]
        · rw [if_pos k0, if_neg k0]
          by_cases k1 : u1.toInt = 1
          · rw [if_neg (fun z => z k1), if_pos k1, hZ]
          · rw [if_pos k1, if_neg k1]
            by_cases k2 : u1.toInt = 2
            · rw [if_neg (fun z => z k2), if_pos k2, hZ]
            · rw [if_pos k2, if_neg k2]
              by_cases k3 : u1.toInt = 3
              · rw [if_neg (fun z => z k3), if_pos k3, hZ]
              · rw [if_pos k3, if_neg k3, hZ]
      · rw [if_neg k, if_neg k, hZ]
    have mb' := mb (fnd u0.toInt 0 L (m22, m23, m24, m25)) (fun q => (q, (fnd u0.toInt 0 L (m22, m23, m24, m25)).1, (fnd u0.toInt 0 L (m22, m23, m24, m25)).2.1, (fnd u0.toInt 0 L (m22, m23, m24, m25)).2.2.1, (fnd u0.toInt 0 L (m22, m23, m24, m25)).2.2.2, d28, d29, c54)) (fun _ => rfl)
    refine Eq.trans ?_ mb'.symm
    clear mb mb'
    rcases hh with ⟨x, x1, x2, x3⟩ | ⟨x1, x2, _⟩
    · have e1 := fnd_skp _ _ (m22, m23, m24, m25) x x1
      obtain ⟨_, e3⟩ := skp_some _ _ _ x1
      rw [e1]
      by_cases w2 : u1.toInt < 0
      · rw [if_pos w2, uans_no (Or.inl w2), ite_self]
      · rw [if_neg w2]
        by_cases w4 : u1.toInt ≤ 3
        · rw [if_pos w4, x2, if_neg n10, if_pos (show y.toInt > u0.toInt by omega), x3]
          exact told_u w2 w4
        · rw [if_neg w4, uans_no (Or.inr (by omega)), ite_self]
    · have e3 := skp_none _ _ (by omega) x1
      rw [if_neg (show ¬ y.toInt > u0.toInt by omega)]
      by_cases w2 : u1.toInt < 0
      · rw [if_pos w2]
      · rw [if_neg w2]
        by_cases w4 : u1.toInt ≤ 3
        · rw [if_pos w4, x2, if_pos y00]
        · rw [if_neg w4]
end UNR
