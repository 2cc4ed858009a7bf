def binI (c : Int) : Int := if c = 42 ∨ c = 47 ∨ c = 37 ∨ c = 43 ∨ c = 45 ∨ c = 60 ∨ c = 62 ∨ c = 61 ∨ c = 38 ∨ c = 124 then 1 else 0
theorem binI_rng (c : Int) : 0 ≤ binI c ∧ binI c ≤ 1 := by
  unfold binI
  split
  · exact ⟨by decide, by decide⟩
  · exact ⟨by decide, by decide⟩
theorem binI_one {c : Int} (h : c = 42 ∨ c = 47 ∨ c = 37 ∨ c = 43 ∨ c = 45 ∨ c = 60 ∨ c = 62 ∨ c = 61 ∨ c = 38 ∨ c = 124) : binI c = 1 := by
  unfold binI
  rw [if_pos h]
theorem binI_none {c : Int} (h : c = 40 ∨ c = 33 ∨ c = 91) : binI c = 0 := by
  unfold binI
  rw [if_neg (by omega)]
def wcN (a : Nat → Int32) : Nat → Int
  | 0 => 0
  | n + 1 => wcN a n + binI (a n).toInt
def wc (a : Nat → Int32) (d : Int) : Int := wcN a d.toNat
theorem wcN_pos (a : Nat → Int32) (n : Nat) : 0 ≤ wcN a n := by
  induction n with
  | zero => exact Int.le_refl 0
  | succ n ih => have := (binI_rng (a n).toInt).1; show 0 ≤ wcN a n + binI (a n).toInt; omega
theorem wc_pos (a : Nat → Int32) (d : Int) : 0 ≤ wc a d := wcN_pos a _
theorem wc_zero (a : Nat → Int32) {d : Int} (h : d = 0) : wc a d = 0 := by subst h; rfl
theorem wcN_upd {a : Nat → Int32} {k : Nat} {v : Int32} (n : Nat) (h : n ≤ k) : wcN (upd a k v) n = wcN a n := by
  induction n with
  | zero => rfl
  | succ n ih =>
    show wcN (upd a k v) n + binI (upd a k v n).toInt = wcN a n + binI (a n).toInt
    rw [ih (by omega)]
    have e : upd a k v n = a n := by unfold upd; rw [if_neg (by omega)]
    rw [e]
theorem wc_push {a a' : Nat → Int32} {z v : Int32} {d d' : Int} (hg : upd a z.toNatClampNeg v = a') (hz : z.toInt = d) (h0 : 0 ≤ d) (hd : d' = d + 1) : wc a' d' = wc a d + binI v.toInt := by
  have e0 : z.toNatClampNeg = d.toNat := by show z.toInt.toNat = _; rw [hz]
  rw [← hg, e0]
  have e1 : d'.toNat = d.toNat + 1 := by omega
  unfold wc
  rw [e1]
  show wcN _ d.toNat + binI (upd a d.toNat v d.toNat).toInt = _
  rw [wcN_upd _ (Nat.le_refl _)]
  have e : upd a d.toNat v d.toNat = v := by unfold upd; rw [if_pos rfl]
  rw [e]
theorem st_zero {a a' : Nat → Int32} {z v : Int32} {d : Int} (hg : upd a z.toNatClampNeg v = a') (hz : z.toInt = d) (h0 : 0 ≤ d) : (d ≤ 0 ∧ (a' (0 : Int).toNat).toInt = v.toInt) ∨ (1 ≤ d ∧ (a' (0 : Int).toNat).toInt = (a (0 : Int).toNat).toInt) := by
  have e0 : z.toNatClampNeg = d.toNat := by show z.toInt.toNat = _; rw [hz]
  rw [← hg, e0]
  by_cases h : d = 0
  · left
    subst h
    exact ⟨Int.le_refl 0, by show (upd a 0 v 0).toInt = _; unfold upd; rw [if_pos rfl]⟩
  · right
    refine ⟨by omega, ?_⟩
    show (upd a d.toNat v 0).toInt = (a 0).toInt
    unfold upd
    rw [if_neg (by omega)]
theorem wc_pop {a : Nat → Int32} {d d' : Int} (h : 1 ≤ d) (hd : d' = d - 1) : wc a d = wc a d' + binI (a d'.toNat).toInt := by
  subst hd
  have e1 : d.toNat = (d - 1).toNat + 1 := by omega
  unfold wc
  rw [e1]
  rfl
theorem wc_top {a : Nat → Int32} {d v : Int} (h : 1 ≤ d) (hv : v = (a (d - 1).toNat).toInt) : wc a d = wc a (d - 1) + binI v := by rw [wc_pop h rfl, hv]
theorem el_zero (a : Nat → Int32) (d : Int) : d ≤ 0 ∨ 2 ≤ d ∨ (a (d - 1).toNat).toInt = (a (0 : Int).toNat).toInt := by
  by_cases h : d = 1
  · subst h; right; right; rfl
  · omega
def stp (c : Int32) (h : Int) : Int := if 2 < c.toInt then h - 1 else if c.toInt = 2 then h else h + 1
def hgtN (a : Nat → Int32) (lo : Nat) : Nat → Int
  | 0 => 0
  | n + 1 => stp (a (lo + n)) (hgtN a lo n)
def okP (a : Nat → Int32) (lo n : Nat) : Prop := ∀ i, i < n → (2 < (a (lo + i)).toInt → 2 ≤ hgtN a lo i) ∧ ((a (lo + i)).toInt = 2 → 1 ≤ hgtN a lo i)
noncomputable def okR (a : Nat → Int32) (r c p : Int) : Int := @ite Int (okP a (160 * r + c).toNat (p - c).toNat) (Classical.propDecidable _) 1 0
def hgtR (a : Nat → Int32) (r c p : Int) : Int := hgtN a (160 * r + c).toNat (p - c).toNat
theorem okR_iff {a : Nat → Int32} {r c p : Int} : okR a r c p = 1 ↔ okP a (160 * r + c).toNat (p - c).toNat := by
  unfold okR
  by_cases h : okP a (160 * r + c).toNat (p - c).toNat
  · rw [if_pos h]; exact ⟨fun _ => h, fun _ => rfl⟩
  · rw [if_neg h]; exact ⟨fun e => absurd e (by decide), fun e => absurd e h⟩
theorem okR_self {a : Nat → Int32} {r c p : Int} (h : c = p) : okR a r c p = 1 ∧ hgtR a r c p = 0 := by
  subst h
  constructor
  · rw [okR_iff]
    intro i hi
    exact absurd hi (by omega)
  · unfold hgtR
    rw [show (c - c).toNat = 0 by omega]
    rfl
theorem hgtN_eq {a a' : Nat → Int32} {lo : Nat} (n : Nat) (h : ∀ i, i < n → a' (lo + i) = a (lo + i)) : hgtN a' lo n = hgtN a lo n := by
  induction n with
  | zero => rfl
  | succ n ih =>
    show stp (a' (lo + n)) (hgtN a' lo n) = stp (a (lo + n)) (hgtN a lo n)
    rw [ih (fun i hi => h i (by omega)), h n (by omega)]
theorem okP_eq {a a' : Nat → Int32} {lo n : Nat} (h : ∀ i, i < n → a' (lo + i) = a (lo + i)) (hk : okP a lo n) : okP a' lo n := by
  intro i hi
  rw [h i hi, hgtN_eq i (fun j hj => h j (by omega))]
  exact hk i hi
theorem okP_upd {a a' : Nat → Int32} {z v : Int32} {w : Int} {lo n : Nat} (hg : upd a z.toNatClampNeg v = a') (hz : z.toInt = w) (h : ((lo + n : Nat) : Int) ≤ w) (hk : okP a lo n) : okP a' lo n := by
  have e0 : z.toNatClampNeg = w.toNat := by show z.toInt.toNat = _; rw [hz]
  refine okP_eq (fun i hi => ?_) hk
  rw [← hg, e0]
  unfold upd
  rw [if_neg (by omega)]
theorem emit_step {a a' : Nat → Int32} {z v : Int32} {r c p p' : Int} (hg : upd a z.toNatClampNeg v = a') (hz : z.toInt = 160 * r + p) (hr : 0 ≤ r) (hc : 0 ≤ c) (hcp : c ≤ p) (hp : p' = p + 1) : ((2 < v.toInt ∧ hgtR a' r c p' = hgtR a r c p - 1) ∨ (v.toInt = 2 ∧ hgtR a' r c p' = hgtR a r c p) ∨ (v.toInt < 2 ∧ hgtR a' r c p' = hgtR a r c p + 1)) ∧ (okR a r c p = 1 → ((2 < v.toInt ∧ 2 ≤ hgtR a r c p) ∨ (v.toInt = 2 ∧ 1 ≤ hgtR a r c p) ∨ v.toInt < 2) → okR a' r c p' = 1) := by
  have e0 : z.toNatClampNeg = (160 * r + c).toNat + (p - c).toNat := by show z.toInt.toNat = _; rw [hz]; omega
  have e1 : (p' - c).toNat = (p - c).toNat + 1 := by omega
  have fr : ∀ i, i < (p - c).toNat → a' ((160 * r + c).toNat + i) = a ((160 * r + c).toNat + i) := by
    intro i hi
    rw [← hg, e0]
    unfold upd
    rw [if_neg (by omega)]
  have at' : a' ((160 * r + c).toNat + (p - c).toNat) = v := by
    rw [← hg, e0]
    unfold upd
    rw [if_pos rfl]
  have hh : hgtR a' r c p' = stp v (hgtR a r c p) := by
    unfold hgtR
    rw [e1]
    show stp (a' _) (hgtN a' _ _) = _
    rw [at', hgtN_eq _ fr]
  refine ⟨?_, fun hk hv => ?_⟩
  · rw [hh]
    unfold stp
    by_cases h2 : 2 < v.toInt
    · left; rw [if_pos h2]; exact ⟨h2, rfl⟩
    · rw [if_neg h2]
      by_cases h3 : v.toInt = 2
      · right; left; rw [if_pos h3]; exact ⟨h3, rfl⟩
      · right; right; rw [if_neg h3]; exact ⟨by omega, rfl⟩
  · rw [okR_iff] at hk ⊢
    rw [e1]
    intro i hi
    by_cases h : i < (p - c).toNat
    · rw [fr i h, hgtN_eq i (fun j hj => fr j (by omega))]
      exact hk i h
    · have e2 : i = (p - c).toNat := by omega
      subst e2
      rw [at', hgtN_eq _ fr]
      have e3 : hgtN a (160 * r + c).toNat (p - c).toNat = hgtR a r c p := rfl
      rw [e3]
      exact ⟨fun q => by omega, fun q => by omega⟩
/-! rules that are enacted, and the one that is read -/
def segOK (a : Nat → Int32) (r f t : Int) : Prop := 0 ≤ f ∧ f ≤ t ∧ t ≤ 160 ∧ okP a (160 * r + f).toNat (t - f).toNat
def RP (i6 : Int32) (a18 a23 a24 a25 : Nat → Int32) : Prop := ∀ r j : Nat, (r : Int) < i6.toInt → (j : Int) < (a18 r).toInt → segOK a25 r (a23 (16 * r + j)).toInt (a24 (16 * r + j)).toInt
def RC (i6 i12 i13 : Int32) (a23 a24 a25 : Nat → Int32) : Prop := ∀ j : Nat, (j : Int) < i12.toInt → segOK a25 i6.toInt (a23 (16 * i6.toInt.toNat + j)).toInt (a24 (16 * i6.toInt.toNat + j)).toInt ∧ (a24 (16 * i6.toInt.toNat + j)).toInt ≤ i13.toInt
def permI (x y z : Int) : Prop := (0 ≤ x ∧ x ≤ 2) ∧ (0 ≤ y ∧ y ≤ 2) ∧ (0 ≤ z ∧ z ≤ 2) ∧ x ≠ y ∧ y ≠ z ∧ x ≠ z
def KI (i6 : Int32) (a18 a19 a20 a21 a22 : Nat → Int32) : Prop := ∀ r j : Nat, (r : Int) < i6.toInt → (j : Int) < (a18 r).toInt → (a19 (16 * r + j)).toInt = 107 → permI (a20 (16 * r + j)).toInt (a21 (16 * r + j)).toInt (a22 (16 * r + j)).toInt
def KC (i6 i11 i12 : Int32) (a19 a20 a21 a22 : Nat → Int32) : Prop := i11.toInt = 0 → ∀ j : Nat, (j : Int) < i12.toInt → (a19 (16 * i6.toInt.toNat + j)).toInt = 107 → permI (a20 (16 * i6.toInt.toNat + j)).toInt (a21 (16 * i6.toInt.toNat + j)).toInt (a22 (16 * i6.toInt.toNat + j)).toInt
theorem segOK.upd {a a' : Nat → Int32} {z v : Int32} {w r f t : Int} (h : segOK a r f t) (hg : upd a z.toNatClampNeg v = a') (hz : z.toInt = w) (hr : 0 ≤ r) (hw : 160 * r + t ≤ w) : segOK a' r f t := by
  obtain ⟨h1, h2, h3, h4⟩ := h
  exact ⟨h1, h2, h3, okP_upd hg hz (by omega) h4⟩
theorem RP_emit {i6 z v : Int32} {a18 a23 a24 a a' : Nat → Int32} {w : Int} (h : RP i6 a18 a23 a24 a) (hg : upd a z.toNatClampNeg v = a') (hz : z.toInt = w) (hw : 160 * i6.toInt ≤ w) : RP i6 a18 a23 a24 a' := by
  intro r j hr hj
  have hs := h r j hr hj
  have h3 := hs.2.2.1
  exact segOK.upd hs hg hz (by omega) (by omega)
theorem RC_emit {i6 i12 i13 i13' z v : Int32} {a23 a24 a a' : Nat → Int32} (h : RC i6 i12 i13 a23 a24 a) (h6 : 0 ≤ i6.toInt) (hg : upd a z.toNatClampNeg v = a') (hz : z.toInt = 160 * i6.toInt + i13.toInt) (hp : i13.toInt ≤ i13'.toInt) : RC i6 i12 i13' a23 a24 a' := by
  intro j hj
  obtain ⟨hs, h2⟩ := h j hj
  exact ⟨segOK.upd hs hg hz h6 (by omega), by omega⟩
theorem KC_bad {i6 i11 i12 : Int32} {a19 a20 a21 a22 : Nat → Int32} (h : i11.toInt ≤ -1) : KC i6 i11 i12 a19 a20 a21 a22 := fun e => by omega
theorem KC_good {i6 i11 i11' i12 : Int32} {a19 a20 a21 a22 : Nat → Int32} (h : KC i6 i11 i12 a19 a20 a21 a22) (e : i11.toInt = 0) : KC i6 i11' i12 a19 a20 a21 a22 := fun _ => h e
theorem upd_far {a a' : Nat → Int32} {z v : Int32} {w : Int} (hg : upd a z.toNatClampNeg v = a') (hz : z.toInt = w) {i : Nat} (hi : (i : Int) < w) : a' i = a i := by
  have e0 : z.toNatClampNeg = w.toNat := by show z.toInt.toNat = _; rw [hz]
  rw [← hg, e0]
  unfold upd
  rw [if_neg (by omega)]
theorem upd_at {a a' : Nat → Int32} {z v : Int32} {w : Int} (hg : upd a z.toNatClampNeg v = a') (hz : z.toInt = w) {i : Nat} (hi : (i : Int) = w) : a' i = v := by
  have e0 : z.toNatClampNeg = w.toNat := by show z.toInt.toNat = _; rw [hz]
  rw [← hg, e0]
  unfold upd
  rw [if_pos (by omega)]
/-- what changes at the clause that is read alone does not touch what is enacted or done -/
theorem KI_far {i6 : Int32} {a18 a19 a20 a21 a22 b19 b20 b21 b22 : Nat → Int32} (h : KI i6 a18 a19 a20 a21 a22) (hb : ∀ r : Nat, (r : Int) < i6.toInt → (a18 r).toInt ≤ 16) (e : ∀ i : Nat, (i : Int) < 16 * i6.toInt → b19 i = a19 i ∧ b20 i = a20 i ∧ b21 i = a21 i ∧ b22 i = a22 i) : KI i6 a18 b19 b20 b21 b22 := by
  intro r j hr hj hl
  have hb1 := hb r hr
  obtain ⟨e1, e2, e3, e4⟩ := e (16 * r + j) (by omega)
  rw [e1] at hl
  rw [e2, e3, e4]
  exact h r j hr hj hl
theorem KC_far {i6 i11 i12 : Int32} {a19 a20 a21 a22 b19 b20 b21 b22 : Nat → Int32} (h : KC i6 i11 i12 a19 a20 a21 a22) (h6 : 0 ≤ i6.toInt) (e : ∀ i : Nat, (i : Int) < 16 * i6.toInt + i12.toInt → b19 i = a19 i ∧ b20 i = a20 i ∧ b21 i = a21 i ∧ b22 i = a22 i) : KC i6 i11 i12 b19 b20 b21 b22 := by
  intro hb j hj hl
  obtain ⟨e1, e2, e3, e4⟩ := e (16 * i6.toInt.toNat + j) (by omega)
  rw [e1] at hl
  rw [e2, e3, e4]
  exact h hb j hj hl
theorem RP_far {i6 : Int32} {a18 a23 a24 b23 b24 a25 : Nat → Int32} (h : RP i6 a18 a23 a24 a25) (hb : ∀ r : Nat, (r : Int) < i6.toInt → (a18 r).toInt ≤ 16) (e : ∀ i : Nat, (i : Int) < 16 * i6.toInt → b23 i = a23 i ∧ b24 i = a24 i) : RP i6 a18 b23 b24 a25 := by
  intro r j hr hj
  have hb1 := hb r hr
  obtain ⟨e1, e2⟩ := e (16 * r + j) (by omega)
  rw [e1, e2]
  exact h r j hr hj
theorem RC_far {i6 i12 i13 : Int32} {a23 a24 b23 b24 a25 : Nat → Int32} (h : RC i6 i12 i13 a23 a24 a25) (h6 : 0 ≤ i6.toInt) (e : ∀ i : Nat, (i : Int) < 16 * i6.toInt + i12.toInt → b23 i = a23 i ∧ b24 i = a24 i) : RC i6 i12 i13 b23 b24 a25 := by
  intro j hj
  obtain ⟨e1, e2⟩ := e (16 * i6.toInt.toNat + j) (by omega)
  rw [e1, e2]
  exact h j hj
/-- one clause more is done -/
theorem RC_next {i6 i12 i12' i13 : Int32} {a23 a24 a25 : Nat → Int32} (h : RC i6 i12 i13 a23 a24 a25) (h6 : 0 ≤ i6.toInt) (h12 : 0 ≤ i12.toInt) (e : i12'.toInt = i12.toInt + 1) {k : Nat} (hk : (k : Int) = 16 * i6.toInt + i12.toInt) {f t : Int} (hf : (a23 k).toInt = f) (ht : (a24 k).toInt = t) (hs : 0 ≤ f ∧ f ≤ t ∧ t ≤ 160) (htc : t ≤ i13.toInt) (ho : okR a25 i6.toInt f t = 1) : RC i6 i12' i13 a23 a24 a25 := by
  intro j hj
  by_cases h1 : (j : Int) < i12.toInt
  · exact h j h1
  · have e1 : 16 * i6.toInt.toNat + j = k := by omega
    rw [e1, hf, ht]
    exact ⟨⟨hs.1, hs.2.1, hs.2.2, okR_iff.mp ho⟩, htc⟩
theorem KC_next {i6 i11 i12 i12' : Int32} {a19 a20 a21 a22 : Nat → Int32} (h : KC i6 i11 i12 a19 a20 a21 a22) (h6 : 0 ≤ i6.toInt) (h12 : 0 ≤ i12.toInt) (e : i12'.toInt = i12.toInt + 1) {k : Nat} (hk : (k : Int) = 16 * i6.toInt + i12.toInt) (hp : i11.toInt = 0 → (a19 k).toInt = 107 → permI (a20 k).toInt (a21 k).toInt (a22 k).toInt) : KC i6 i11 i12' a19 a20 a21 a22 := by
  intro hb j hj hl
  by_cases h1 : (j : Int) < i12.toInt
  · exact h hb j h1 hl
  · have e1 : 16 * i6.toInt.toNat + j = k := by omega
    rw [e1] at hl ⊢
    exact hp hb hl
/-- a rule more is enacted -/
theorem RP_next {i6 i6' i12 i13 z : Int32} {a18 a18' a23 a24 a25 : Nat → Int32} (h : RP i6 a18 a23 a24 a25) (hc : RC i6 i12 i13 a23 a24 a25) (h6 : 0 ≤ i6.toInt) (e : i6'.toInt = i6.toInt + 1) (hg : upd a18 z.toNatClampNeg i12 = a18') (hz : z.toInt = i6.toInt) : RP i6' a18' a23 a24 a25 := by
  intro r j hr hj
  by_cases h1 : (r : Int) < i6.toInt
  · rw [upd_far hg hz h1] at hj
    exact h r j h1 hj
  · have e1 : (r : Int) = i6.toInt := by omega
    rw [upd_at hg hz e1] at hj
    have e2 : i6.toInt.toNat = r := by omega
    have hs := (hc j hj).1
    rw [e2] at hs
    rw [e1]
    exact hs
theorem KI_next {i6 i6' i11 i12 z : Int32} {a18 a18' a19 a20 a21 a22 : Nat → Int32} (h : KI i6 a18 a19 a20 a21 a22) (hc : KC i6 i11 i12 a19 a20 a21 a22) (h11 : i11.toInt = 0) (h6 : 0 ≤ i6.toInt) (e : i6'.toInt = i6.toInt + 1) (hg : upd a18 z.toNatClampNeg i12 = a18') (hz : z.toInt = i6.toInt) : KI i6' a18' a19 a20 a21 a22 := by
  intro r j hr hj hl
  by_cases h1 : (r : Int) < i6.toInt
  · rw [upd_far hg hz h1] at hj
    exact h r j h1 hj hl
  · have e1 : (r : Int) = i6.toInt := by omega
    rw [upd_at hg hz e1] at hj
    have e2 : i6.toInt.toNat = r := by omega
    have hs := hc h11 j hj
    rw [e2] at hs
    exact hs hl
theorem RC_zero {i6 i12 i13 : Int32} {a23 a24 a25 : Nat → Int32} (h : i12.toInt = 0) : RC i6 i12 i13 a23 a24 a25 := fun j hj => by omega
theorem KC_zero {i6 i11 i12 : Int32} {a19 a20 a21 a22 : Nat → Int32} (h : i12.toInt = 0) : KC i6 i11 i12 a19 a20 a21 a22 := fun _ j hj => by omega
/-- an enacted clause, by its number -/
def EN (i6 : Int32) (a18 : Nat → Int32) (k : Int) : Prop := 0 ≤ k ∧ k / 16 < i6.toInt ∧ k % 16 < (a18 (k / 16).toNat).toInt
theorem RP_at {i6 : Int32} {a18 a23 a24 a25 : Nat → Int32} {k : Int} (h : RP i6 a18 a23 a24 a25) (e : EN i6 a18 k) : segOK a25 (k / 16) (a23 k.toNat).toInt (a24 k.toNat).toInt := by
  obtain ⟨e0, e1, e2⟩ := e
  have q1 : ((k / 16).toNat : Int) = k / 16 := by omega
  have q2 : ((k % 16).toNat : Int) = k % 16 := by omega
  have hs := h (k / 16).toNat (k % 16).toNat (by omega) (by omega)
  have q3 : 16 * (k / 16).toNat + (k % 16).toNat = k.toNat := by omega
  rw [q3, q1] at hs
  exact hs
theorem KI_at {i6 : Int32} {a18 a19 a20 a21 a22 : Nat → Int32} {k : Int} (h : KI i6 a18 a19 a20 a21 a22) (e : EN i6 a18 k) (hl : (a19 k.toNat).toInt = 107) : permI (a20 k.toNat).toInt (a21 k.toNat).toInt (a22 k.toNat).toInt := by
  obtain ⟨e0, e1, e2⟩ := e
  have q3 : 16 * (k / 16).toNat + (k % 16).toNat = k.toNat := by omega
  have hs := h (k / 16).toNat (k % 16).toNat (by omega) (by omega)
  rw [q3] at hs
  exact hs hl
/-- one step of a text that is worked out -/
theorem run_step {a : Nat → Int32} {lo n : Nat} (h : okP a lo n) (i : Nat) (hi : i < n) : (2 < (a (lo + i)).toInt ∧ 2 ≤ hgtN a lo i ∧ hgtN a lo (i + 1) = hgtN a lo i - 1) ∨ ((a (lo + i)).toInt = 2 ∧ 1 ≤ hgtN a lo i ∧ hgtN a lo (i + 1) = hgtN a lo i) ∨ ((a (lo + i)).toInt < 2 ∧ hgtN a lo (i + 1) = hgtN a lo i + 1) := by
  have h1 := h i hi
  have e : hgtN a lo (i + 1) = stp (a (lo + i)) (hgtN a lo i) := rfl
  rw [e]
  unfold stp
  by_cases h2 : 2 < (a (lo + i)).toInt
  · left; rw [if_pos h2]; exact ⟨h2, h1.1 h2, rfl⟩
  · rw [if_neg h2]
    by_cases h3 : (a (lo + i)).toInt = 2
    · right; left; rw [if_pos h3]; exact ⟨h3, h1.2 h3, rfl⟩
    · right; right; rw [if_neg h3]; exact ⟨by omega, rfl⟩
theorem hgtN_le (a : Nat → Int32) (lo : Nat) (i : Nat) : hgtN a lo i ≤ i := by
  induction i with
  | zero => exact Int.le_refl 0
  | succ i ih =>
    show stp (a (lo + i)) (hgtN a lo i) ≤ _
    unfold stp
    split
    · omega
    · split <;> omega
def hereV (a : Nat → Int32) (p e : Int) : Int := if p < e then ((a p.toNat) &&& 255).toInt else 0
theorem here_val {a : Nat → Int32} {x y z w : Int32} {p e : Int} (hx : x = a y.toNatClampNeg) (hy : y.toInt = p) (hp : p < e) (hw : w = 255) (hz : (x &&& w) = z) : z.toInt = hereV a p e ∧ 0 ≤ z.toInt ∧ z.toInt ≤ 255 := by
  subst hz; subst hw
  refine ⟨?_, and_rng (c := 255) rfl (by decide)⟩
  unfold hereV
  rw [if_pos hp, hx]
  have e0 : y.toNatClampNeg = p.toNat := by show y.toInt.toNat = _; rw [hy]
  rw [e0]
theorem here_none {a : Nat → Int32} {p e : Int} (hp : e ≤ p) : hereV a p e = 0 := by
  unfold hereV
  rw [if_neg (by omega)]
def hasI (s k : Int) : Int := if ((Int32.ofInt s >>> (Int32.ofInt k &&& 31)) &&& 1).toInt = 1 then 1 else 0
theorem hasI_of {x y : Int32} : hasI x.toInt y.toInt = if ((x >>> (y &&& 31)) &&& 1).toInt = 1 then 1 else 0 := by
  unfold hasI
  rw [Int32.ofInt_toInt, Int32.ofInt_toInt]
theorem hasI_1 {x y : Int32} (h : ((x >>> (y &&& 31)) &&& 1).toInt = 1) : hasI x.toInt y.toInt = 1 := by rw [hasI_of, if_pos h]
theorem hasI_0 {x y : Int32} (h : ¬ ((x >>> (y &&& 31)) &&& 1).toInt = 1) : hasI x.toInt y.toInt = 0 := by rw [hasI_of, if_neg h]
theorem const_ir {p : Program} {l : Launch} {e : Env} {R : Room} {s : State} {m : MethodId} {args : Array Value} {below : List Frame} {meth : Method} {c : Code} {H : Heap} {locs : List Loc} {cells slots : Nat} {Q : State → Prop} {pc : Nat} {ls : Array Slot} {rest : List Value} {x r : Int32} (h : x = r) (kk : W p l e R s m args below meth c H locs cells slots Q (F0 m pc ls (.int r :: rest))) : W p l e R s m args below meth c H locs cells slots Q (F0 m pc ls (.int x :: rest)) := by rw [h]; exact kk
theorem EN_mk {i6 : Int32} {a18 : Nat → Int32} {i k : Int} (h0 : 0 ≤ i) (h1 : i < i6.toInt) (h2 : 16 * i ≤ k) (h3 : k < 16 * i + (a18 i.toNat).toInt) (h4 : (a18 i.toNat).toInt ≤ 16) : EN i6 a18 k := by
  have e1 : k / 16 = i := by omega
  refine ⟨by omega, by omega, ?_⟩
  rw [e1]
  omega
noncomputable def enN (i6 : Int32) (a18 : Nat → Int32) (k : Int) : Int := @ite Int (EN i6 a18 k) (Classical.propDecidable _) 1 0
theorem enN_iff {i6 : Int32} {a18 : Nat → Int32} {k : Int} : enN i6 a18 k = 1 ↔ EN i6 a18 k := by
  unfold enN
  by_cases h : EN i6 a18 k
  · rw [if_pos h]; exact ⟨fun _ => h, fun _ => rfl⟩
  · rw [if_neg h]; exact ⟨fun e => absurd e (by decide), fun e => absurd e h⟩
theorem EN_of {i6 : Int32} {a18 : Nat → Int32} {k d r : Int} (h0 : 0 ≤ k) (hd : d = k / 16) (hr : r = k % 16) (h1 : d < i6.toInt) (h2 : r < (a18 d.toNat).toInt) : enN i6 a18 k = 1 := by
  subst hd; subst hr
  exact enN_iff.mpr ⟨h0, h1, h2⟩
theorem perm3 {x y z : Int} (h : permI x y z) : (x = 0 ∧ y = 1 ∧ z = 2) ∨ (x = 0 ∧ y = 2 ∧ z = 1) ∨ (x = 1 ∧ y = 0 ∧ z = 2) ∨ (x = 1 ∧ y = 2 ∧ z = 0) ∨ (x = 2 ∧ y = 0 ∧ z = 1) ∨ (x = 2 ∧ y = 1 ∧ z = 0) := by
  obtain ⟨⟨a0, a1⟩, ⟨b0, b1⟩, ⟨c0, c1⟩, n1, n2, n3⟩ := h
  have hx : x = 0 ∨ x = 1 ∨ x = 2 := by clear n1 n2 n3 b0 b1 c0 c1; omega
  have hy : y = 0 ∨ y = 1 ∨ y = 2 := by clear n1 n2 n3 a0 a1 c0 c1 hx; omega
  have hz : z = 0 ∨ z = 1 ∨ z = 2 := by clear n1 n2 n3 a0 a1 b0 b1 hx hy; omega
  rcases hx with rfl | rfl | rfl <;> rcases hy with rfl | rfl | rfl <;> rcases hz with rfl | rfl | rfl <;> first | exact absurd rfl n1 | exact absurd rfl n2 | exact absurd rfl n3 | decide
theorem perm_of {i6 : Int32} {a18 a19 a20 a21 a22 : Nat → Int32} {k : Int} (h : KI i6 a18 a19 a20 a21 a22) (e : enN i6 a18 k = 1) (hl : (a19 k.toNat).toInt = 107) : ((a20 k.toNat).toInt = 0 ∧ (a21 k.toNat).toInt = 1 ∧ (a22 k.toNat).toInt = 2) ∨ ((a20 k.toNat).toInt = 0 ∧ (a21 k.toNat).toInt = 2 ∧ (a22 k.toNat).toInt = 1) ∨ ((a20 k.toNat).toInt = 1 ∧ (a21 k.toNat).toInt = 0 ∧ (a22 k.toNat).toInt = 2) ∨ ((a20 k.toNat).toInt = 1 ∧ (a21 k.toNat).toInt = 2 ∧ (a22 k.toNat).toInt = 0) ∨ ((a20 k.toNat).toInt = 2 ∧ (a21 k.toNat).toInt = 0 ∧ (a22 k.toNat).toInt = 1) ∨ ((a20 k.toNat).toInt = 2 ∧ (a21 k.toNat).toInt = 1 ∧ (a22 k.toNat).toInt = 0) := by
  have hp := KI_at h (enN_iff.mp e) hl
  exact perm3 hp
def hgtA (a : Nat → Int32) (lo i : Int) : Int := hgtN a lo.toNat (i - lo).toNat
theorem hgtA_self (a : Nat → Int32) {lo i : Int} (h : i = lo) : hgtA a lo i = 0 := by
  subst h
  unfold hgtA
  rw [show (i - i).toNat = 0 by omega]
  rfl
theorem hgtA_le (a : Nat → Int32) {lo i : Int} (h : lo ≤ i) : hgtA a lo i ≤ i - lo := by
  have := hgtN_le a lo.toNat (i - lo).toNat
  unfold hgtA
  omega
theorem run_stepA {i6 : Int32} {a18 a23 a24 a : Nat → Int32} {k d lo i i' : Int} (h : RP i6 a18 a23 a24 a) (e : enN i6 a18 k = 1) (hd : d = k / 16) (hlo : lo = 160 * d + (a23 k.toNat).toInt) (h1 : lo ≤ i) (h2 : i < 160 * d + (a24 k.toNat).toInt) (hi : i' = i + 1) : (2 < (a i.toNat).toInt ∧ 2 ≤ hgtA a lo i ∧ hgtA a lo i' = hgtA a lo i - 1) ∨ ((a i.toNat).toInt = 2 ∧ 1 ≤ hgtA a lo i ∧ hgtA a lo i' = hgtA a lo i) ∨ ((a i.toNat).toInt < 2 ∧ hgtA a lo i' = hgtA a lo i + 1) := by
  have hE := enN_iff.mp e
  have hs := RP_at h hE
  obtain ⟨s1, s2, s3, s4⟩ := hs
  have hk := hE.1
  subst hd
  have q0 : 0 ≤ k / 16 := by omega
  have q1 : (160 * (k / 16) + (a23 k.toNat).toInt).toNat = lo.toNat := by rw [hlo]
  rw [q1] at s4
  have q2 : (i - lo).toNat < ((a24 k.toNat).toInt - (a23 k.toNat).toInt).toNat := by omega
  have hh := run_step s4 (i - lo).toNat q2
  have q3 : lo.toNat + (i - lo).toNat = i.toNat := by omega
  have q4 : (i - lo).toNat + 1 = (i' - lo).toNat := by omega
  rw [q3, q4] at hh
  exact hh
theorem seg_rng {i6 : Int32} {a18 a23 a24 a : Nat → Int32} {k : Int} (h : RP i6 a18 a23 a24 a) (e : enN i6 a18 k = 1) : 0 ≤ (a23 k.toNat).toInt ∧ (a23 k.toNat).toInt ≤ (a24 k.toNat).toInt ∧ (a24 k.toNat).toInt ≤ 160 := by
  have hs := RP_at h (enN_iff.mp e)
  exact ⟨hs.1, hs.2.1, hs.2.2.1⟩
theorem en_rng {i6 : Int32} {a18 : Nat → Int32} {k : Int} (e : enN i6 a18 k = 1) : 0 ≤ k ∧ k < 16 * i6.toInt := by
  have h := enN_iff.mp e
  exact ⟨h.1, by have := h.2.1; omega⟩
/-! how many are FIXED -/
def isF (v : Int32) : Int := if v.toInt = 2 then 1 else 0
theorem isF_rng (v : Int32) : 0 ≤ isF v ∧ isF v ≤ 1 := by
  unfold isF
  split
  · exact ⟨by decide, by decide⟩
  · exact ⟨by decide, by decide⟩
def cntN (a : Nat → Int32) : Nat → Int
  | 0 => 0
  | n + 1 => cntN a n + isF (a n)
def cntF (a : Nat → Int32) : Int := cntN a 200
theorem cntN_pos (a : Nat → Int32) (n : Nat) : 0 ≤ cntN a n := by
  induction n with
  | zero => exact Int.le_refl 0
  | succ n ih => have := (isF_rng (a n)).1; show 0 ≤ cntN a n + isF (a n); omega
theorem cntN_upd {a : Nat → Int32} {k : Nat} {v : Int32} (n : Nat) : cntN (upd a k v) n = cntN a n + (if k < n then isF v - isF (a k) else 0) := by
  induction n with
  | zero => rfl
  | succ n ih =>
    show cntN (upd a k v) n + isF (upd a k v n) = cntN a n + isF (a n) + _
    rw [ih]
    unfold upd
    by_cases h1 : n = k
    · subst h1
      rw [if_pos rfl, if_neg (Nat.lt_irrefl n), if_pos (Nat.lt_succ_self n)]
      omega
    · rw [if_neg h1]
      by_cases h2 : k < n
      · rw [if_pos h2, if_pos (by omega)]; omega
      · rw [if_neg h2, if_neg (by omega)]; omega
theorem cnt_put {a a' : Nat → Int32} {z v : Int32} {i : Int} (hg : upd a z.toNatClampNeg v = a') (hz : z.toInt = i) (h0 : 0 ≤ i) (h1 : i < 200) : cntF a' = cntF a + isF v - isF (a i.toNat) := by
  have e0 : z.toNatClampNeg = i.toNat := by show z.toInt.toNat = _; rw [hz]
  rw [← hg, e0]
  unfold cntF
  rw [cntN_upd, if_pos (by omega)]
  omega
theorem isF_2 {v : Int32} (h : v.toInt = 2) : isF v = 1 := by unfold isF; rw [if_pos h]
theorem isF_n {v : Int32} (h : ¬ v.toInt = 2) : isF v = 0 := by unfold isF; rw [if_neg h]
theorem cntF_pos (a : Nat → Int32) : 0 ≤ cntF a := cntN_pos a 200
