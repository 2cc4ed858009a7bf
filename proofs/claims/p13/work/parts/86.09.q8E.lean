/-! the class's ranks, tails and clauses -/
def D3 (x : Int32) : Prop := x = 0 ∨ x = 1 ∨ x = 2
theorem D3_of {x : Int32} (h : 0 ≤ x.toInt ∧ x.toInt ≤ 2) : D3 x := by
  have c2 : (2 : Int32).toInt = 2 := by decide
  have e1 := c1
  have e0 := c0
  rcases (show x.toInt = 0 ∨ x.toInt = 1 ∨ x.toInt = 2 by omega) with h | h | h
  · exact Or.inl (eq_of_toInt (by omega))
  · exact Or.inr (Or.inl (eq_of_toInt (by omega)))
  · exact Or.inr (Or.inr (eq_of_toInt (by omega)))
theorem bt0 {d : Int32} (h : D3 d) : ((0 : Int32) &&& ((1 : Int32) <<< (d &&& 31))).toInt = 0 := by
  rcases h with rfl | rfl | rfl <;> decide
theorem bt1y {d e : Int32} (h : D3 d) (g : D3 e) (n : e.toInt ≠ d.toInt) : (((0 : Int32) ||| ((1 : Int32) <<< (d &&& 31))) &&& ((1 : Int32) <<< (e &&& 31))).toInt = 0 := by
  rcases h with rfl | rfl | rfl <;> rcases g with rfl | rfl | rfl <;> first | decide | exact absurd rfl n
theorem bt1n {d e : Int32} (h : D3 d) (g : D3 e) (n : e.toInt = d.toInt) : ¬ (((0 : Int32) ||| ((1 : Int32) <<< (d &&& 31))) &&& ((1 : Int32) <<< (e &&& 31))).toInt = 0 := by
  have n := eq_of_toInt n
  subst n
  rcases h with rfl | rfl | rfl <;> decide
theorem bt2y {d e f : Int32} (h : D3 d) (g : D3 e) (k : D3 f) (n : f.toInt ≠ d.toInt) (n2 : f.toInt ≠ e.toInt) : ((((0 : Int32) ||| ((1 : Int32) <<< (d &&& 31))) ||| ((1 : Int32) <<< (e &&& 31))) &&& ((1 : Int32) <<< (f &&& 31))).toInt = 0 := by
  rcases h with rfl | rfl | rfl <;> rcases g with rfl | rfl | rfl <;> rcases k with rfl | rfl | rfl <;> first | decide | exact absurd rfl n | exact absurd rfl n2
theorem bt2n {d e f : Int32} (h : D3 d) (g : D3 e) (k : D3 f) (n : f.toInt = d.toInt ∨ f.toInt = e.toInt) : ¬ ((((0 : Int32) ||| ((1 : Int32) <<< (d &&& 31))) ||| ((1 : Int32) <<< (e &&& 31))) &&& ((1 : Int32) <<< (f &&& 31))).toInt = 0 := by
  rcases n with n | n
  · have n := eq_of_toInt n
    subst n
    rcases h with rfl | rfl | rfl <;> rcases g with rfl | rfl | rfl <;> decide
  · have n := eq_of_toInt n
    subst n
    rcases h with rfl | rfl | rfl <;> rcases g with rfl | rfl | rfl <;> decide
section XC2
variable {T : Nat → Int} {n p r j : Nat} {u0 i9 i12 y a b : Int32} {a1 a23 a24 a25 : Nat → Int32}
theorem dig {y : Int32} {p : Nat} (hT : TXT T n) (hx : TXX T n i12 a1) (hy : y.toInt = (p : Int)) (h : 48 ≤ T p ∧ T p ≤ 50) : D3 (F_x3_sign i12 y a1 - 48) ∧ (F_x3_sign i12 y a1 - 48).toInt = T p - 48 := by
  have hs := sg_of hT hx hy
  have := toInt_sub (x := F_x3_sign i12 y a1) (y := 48) rfl c48 (by omega) (by omega)
  exact ⟨D3_of (by omega), by omega⟩
theorem rk_1 {m : Nat} {x2 x3 x4 y : Int32} {p : Nat} (hT : TXT T n) (hx : TXX T n i12 a1) (hy : y.toInt = (p : Int)) (h4 : x4.toInt < 3) (h : ¬ (48 ≤ T p ∧ T p ≤ 50)) : f_x3_readRanks_j1 u0 i9 i12 a b a1 a23 a24 a25 (m + 1) x2 x3 x4 y = ((0 : Int32), y, 1, y, a23, a24, a25) := by
  have hs := sg_of hT hx hy
  have c50 : (50 : Int32).toInt = 50 := by decide
  have c48' := c48
  rw [S_x3_readRanks_j1, if_neg (by omega)]
  rcases btw (u := F_x3_sign i12 y a1) (a := 48) (b := 50) with ⟨q1, q2, q⟩ | ⟨q1, q⟩
  · omega
  · rw [q, if_neg n00]; rfl
theorem rk_g {m : Nat} {x2 x3 x4 y : Int32} {p : Nat} (hT : TXT T n) (hx : TXX T n i12 a1) (hy : y.toInt = (p : Int)) (h4 : x4.toInt < 3) (h : 48 ≤ T p ∧ T p ≤ 50) : f_x3_readRanks_j1 u0 i9 i12 a b a1 a23 a24 a25 (m + 1) x2 x3 x4 y = if (x2 &&& ((1 : Int32) <<< ((F_x3_sign i12 y a1 - 48) &&& 31))).toInt = 0 then f_x3_readRanks_j1 u0 i9 i12 a b a1 a23 a24 a25 m (x2 ||| ((1 : Int32) <<< ((F_x3_sign i12 y a1 - 48) &&& 31))) (x3 * 4 + (F_x3_sign i12 y a1 - 48)) (x4 + Int32.ofInt 1) (y + 1) else ((0 : Int32), y, 6, y, a23, a24, a25) := by
  have hs := sg_of hT hx hy
  have c50 : (50 : Int32).toInt = 50 := by decide
  have c48' := c48
  rw [S_x3_readRanks_j1, if_neg (by omega)]
  rcases btw (u := F_x3_sign i12 y a1) (a := 48) (b := 50) with ⟨q1, q2, q⟩ | ⟨q1, q⟩
  · rw [q, if_pos y10]; rfl
  · omega
theorem x_ranks (hT : TXT T n) (hx : TXX T n i12 a1) (hi : i9.toInt = (r : Int)) (hj : u0.toInt = (j : Int)) (hr : r < 20) (hj2 : j < 16) (hy : y.toInt = (p : Int)) (hp : p ≤ n) :
    X7 (spR T p) a b (16 * r + j) a23 a24 a25 0 0 (16 * (T p - 48) + 4 * (T (p + 1) - 48) + (T (p + 2) - 48)) (F_x3_readRanks u0 i9 i12 y a b a1 a23 a24 a25) := by
  have h160 := hT.1
  have c4 : (4 : Int32).toInt = 4 := by decide
  have e0 := c0
  have o1 := co1
  have e : F_x3_readRanks u0 i9 i12 y a b a1 a23 a24 a25 = f_x3_readRanks_j1 u0 i9 i12 a b a1 a23 a24 a25 (3 + 1) 0 0 0 y := rfl
  rw [e]
  unfold spR
  by_cases h1 : 48 ≤ T p ∧ T p ≤ 50
  · have p1 := T_in hT (p := p) (by omega)
    have hy1 := suc_of hy (by omega)
    obtain ⟨d1, v1⟩ := dig hT hx hy h1
    rw [if_neg (fun z => z h1), rk_g hT hx hy (by omega) h1, if_pos (bt0 d1)]
    generalize F_x3_sign i12 y a1 - 48 = x at d1 v1
    have m1 : ((0 : Int32) * 4).toInt = 0 := by decide
    have m2 := toInt_add m1 v1 (by omega) (by omega)
    have k1 := toInt_add e0 o1 (by omega) (by omega)
    by_cases h2 : 48 ≤ T (p + 1) ∧ T (p + 1) ≤ 50
    · have p2 := T_in hT (p := p + 1) (by omega)
      have hy2 : (y + 1 + 1).toInt = ((p + 2 : Nat) : Int) := suc_of hy1 (by omega)
      obtain ⟨d2, v2⟩ := dig hT hx hy1 h2
      rw [if_neg (fun z => z h2), rk_g (m := 2) hT hx hy1 (by omega) h2]
      generalize F_x3_sign i12 (y + 1) a1 - 48 = w at d2 v2
      by_cases h3 : T (p + 1) = T p
      · rw [if_pos h3, if_neg (bt1n d1 d2 (by omega))]
        exact X7_bad (g := 6) (c := 6000) hy1 (by omega) (by decide) (by decide) (by decide)
      · rw [if_neg h3, if_pos (bt1y d1 d2 (by omega))]
        have m3 : ((0 * 4 + x) * (4 : Int32)).toInt = (0 + (T p - 48)) * 4 := toInt_mul m2 c4 rfl (by omega) (by omega)
        have m4 := toInt_add m3 v2 (by omega) (by omega)
        have k2 := toInt_add k1 o1 (by omega) (by omega)
        by_cases h4 : 48 ≤ T (p + 2) ∧ T (p + 2) ≤ 50
        · have p3 := T_in hT (p := p + 2) (by omega)
          have hy3 : (y + 1 + 1 + 1).toInt = ((p + 3 : Nat) : Int) := suc_of hy2 (by omega)
          obtain ⟨d3, v3⟩ := dig hT hx hy2 h4
          rw [if_neg (fun z => z h4), rk_g (m := 1) hT hx hy2 (by omega) h4]
          generalize F_x3_sign i12 (y + 1 + 1) a1 - 48 = v at d3 v3
          by_cases h5 : T (p + 2) = T p ∨ T (p + 2) = T (p + 1)
          · rw [if_pos h5, if_neg (bt2n d1 d2 d3 (by omega))]
            exact X7_bad (g := 6) (c := 6000) hy2 (by omega) (by decide) (by decide) (by decide)
          · rw [if_neg h5, if_pos (bt2y d1 d2 d3 (by omega) (by omega))]
            have m5 : (((0 * 4 + x) * 4 + w) * (4 : Int32)).toInt = ((0 + (T p - 48)) * 4 + (T (p + 1) - 48)) * 4 := toInt_mul m4 c4 rfl (by omega) (by omega)
            have m6 := toInt_add m5 v3 (by omega) (by omega)
            have k3 := toInt_add k2 o1 (by omega) (by omega)
            rw [S_x3_readRanks_j1, if_pos (by omega), x_putM hi hj hr hj2]
            exact ⟨XR_ok hy3, Sm_u, Sm_u, Sm_u, fun _ => ⟨by show (upd a23 _ 0 _).toInt = 0; rw [upd_s]; exact c0, by show (upd a24 _ 0 _).toInt = 0; rw [upd_s]; exact c0, by show (upd a25 _ _ _).toInt = _; rw [upd_s]; omega⟩⟩
        · rw [if_pos h4, rk_1 (m := 1) hT hx hy2 (by omega) h4]
          exact X7_bad (g := 1) (c := 1000) hy2 (by omega) (by decide) (by decide) (by decide)
    · rw [if_pos h2, rk_1 (m := 2) hT hx hy1 (by omega) h2]
      exact X7_bad (g := 1) (c := 1000) hy1 (by omega) (by decide) (by decide) (by decide)
  · rw [if_pos h1, rk_1 (m := 3) hT hx hy (by omega) h1]
    exact X7_bad (g := 1) (c := 1000) hy (by omega) (by decide) (by decide) (by decide)
end XC2
abbrev R6 := Int32 × Int32 × Int32 × Int32 × (Nat → Int32) × (Nat → Int32)
theorem x_tail {T : Nat → Int} {n p r j : Nat} {u0 u1 i9 i12 y a b : Int32} {a1 a22 a26 : Nat → Int32} (hT : TXT T n) (hx : TXX T n i12 a1) (hi : i9.toInt = (r : Int)) (hj : u0.toInt = (j : Int)) (hr : r < 20) (hj2 : j < 16) (hy : y.toInt = (p : Int)) (hp : p ≤ n) (hk : a22 (16 * r + j) = u1) {t : R6} (et : t = F_x3_readTail u0 u1 i9 i12 y a b a1 a22 a26) :
    XR (spT T p) a b (t.1, t.2.1, t.2.2.1, t.2.2.2.1) ∧ Sm (16 * r + j) a22 t.2.2.2.2.1 ∧ Sm (16 * r + j) a26 t.2.2.2.2.2 ∧ t.2.2.2.2.1 (16 * r + j) = u1 ∧ (t.2.2.2.2.2 (16 * r + j)).toInt = (if T p = 40 then ((p + 1 : Nat) : Int) else (a26 (16 * r + j)).toInt) := by
  have h160 := hT.1
  have hs := sg_of hT hx hy
  have c41 : (41 : Int32).toInt = 41 := by decide
  subst et
  rw [E_x3_readTail, x_putC hi hj hr hj2]
  unfold spT
  by_cases h : T p = 40
  · have hpn := T_in hT (p := p) (by omega)
    rw [if_pos h, if_pos (show (F_x3_sign i12 y a1).toInt = 40 by omega)]
    have H := x_condition (a := a) (b := b) hT hx (suc_of hy (by omega)) hpn
    have H2 := sp_ok hT 1000 3 1 (p + 1) (by omega) (by omega) (by omega)
    generalize G_x3_readCondition 6 1 i12 (y + 1) a b a1 = t at H
    obtain ⟨t1, t2, t3, t4⟩ := t
    unfold spC
    rcases H2 with ⟨k1, k2, k3⟩ | k1
    · rcases H with ⟨g1, g2', g3', g4', g5'⟩ | ⟨g1, _⟩
      · have g2 : t1 = 1 := g2'
        have g3 : t2.toInt = ((sp T 1000 3 1 (p + 1)).2 : Int) := g3'
        have g4 : t3 = a := g4'
        have g5 : t4 = b := g5'
        clear g2' g3' g4' g5'
        subst g2; subst g4; subst g5
        rw [seq_y k1]
        generalize (sp T 1000 3 1 (p + 1)).2 = q at g3 k2 k3
        have hs2 := sg_of hT hx g3
        dsimp only
        rw [if_neg n10]
        by_cases w : T q = 41
        · rw [if_pos w, xpass1 (by omega)]
          dsimp only
          rw [if_neg n10]
          exact ⟨XR_ok (suc_of g3 (by omega)), Sm_u, Sm_u, upd_s, by show (upd a26 _ _ _).toInt = _; rw [upd_s, if_pos h]; exact suc_of hy (by omega)⟩
        · rw [if_neg w, xpass0 (by omega)]
          dsimp only
          rw [if_pos y00]
          exact ⟨XR_bad (f := 1) (c := 1000) g3 (by omega) (by decide) (by decide) (by decide), Sm_u, Sm_u, upd_s, by show (upd a26 _ _ _).toInt = _; rw [upd_s, if_pos h]; exact suc_of hy (by omega)⟩
      · omega
    · rcases H with ⟨g1, _⟩ | H
      · omega
      · have g2 : t1 = 0 := H.2.1
        subst g2
        rw [seq_n k1.1]
        dsimp only
        rw [if_pos y00]
        exact ⟨Or.inr H, Sm_u, Sm_u, upd_s, by show (upd a26 _ _ _).toInt = _; rw [upd_s, if_pos h]; exact suc_of hy (by omega)⟩
  · rw [if_neg h, if_neg (show ¬ (F_x3_sign i12 y a1).toInt = 40 by omega)]
    exact ⟨XR_ok hy, Sm_r, Sm_r, hk, by rw [if_neg h]⟩
def spCl (T : Nat → Int) (j p : Nat) : Int × Nat := if T p = 119 ∨ T p = 115 ∨ T p = 107 ∨ T p = 118 ∨ T p = 111 then (if 16 ≤ j then (-4000 - (p : Int), p) else spK T p) else (-1000 - (p : Int), p)
theorem spCl_ok {T : Nat → Int} {n p j : Nat} (hT : TXT T n) (hp : p ≤ n) : OKat n p (spCl T j p) := by
  have h160 := hT.1
  unfold spCl
  split
  · next h =>
    have := T_in hT (p := p) (by omega)
    split
    · exact OK_bad (by omega) h160 hp
    · exact spK_ok hT this
  · exact OK_bad (by omega) h160 hp
def hdq (T : Nat → Int) (p : Nat) : Nat := if T p = 119 then (spW T (p + 1)).2 else p + 1
def stx (T : Nat → Int) (p : Nat) : Int := if (T p = 119 ∨ T p = 115) ∧ T (hdq T p) = 40 then ((hdq T p + 1 : Nat) : Int) else -1
abbrev RX := Int32 × Int32 × Int32 × Int32 × Int32 × (Nat → Int32) × (Nat → Int32) × (Nat → Int32) × (Nat → Int32) × (Nat → Int32)
def XC (T : Nat → Int) (r j p : Nat) (a b : Int32) (f2 f3 f4 f5 f6 : Nat → Int32) (t : RX) : Prop :=
  XR (spCl T j p) a b (t.1, t.2.1, t.2.2.1, t.2.2.2.1) ∧ Sm (16 * r + j) f2 t.2.2.2.2.2.1 ∧ Sm (16 * r + j) f3 t.2.2.2.2.2.2.1 ∧ Sm (16 * r + j) f4 t.2.2.2.2.2.2.2.1 ∧ Sm (16 * r + j) f5 t.2.2.2.2.2.2.2.2.1 ∧ Sm (16 * r + j) f6 t.2.2.2.2.2.2.2.2.2 ∧
  ((spCl T j p).1 = 0 → t.2.2.2.2.1.toInt = ((j + 1 : Nat) : Int) ∧ (t.2.2.2.2.2.1 (16 * r + j)).toInt = T p ∧ (t.2.2.2.2.2.2.1 (16 * r + j)).toInt = dS T p ∧ (t.2.2.2.2.2.2.2.1 (16 * r + j)).toInt = dF T p ∧ (t.2.2.2.2.2.2.2.2.1 (16 * r + j)).toInt = dV T p ∧ (t.2.2.2.2.2.2.2.2.2 (16 * r + j)).toInt = stx T p)
section XC3
variable {T : Nat → Int} {n p r j : Nat} {u0 i9 i12 y a b i16 : Int32} {a1 a22 a23 a24 a25 a26 : Nat → Int32}
theorem x_cl_bad {c : Int} {g : Int32} (hy : y.toInt = (p : Int)) (hq : p ≤ 160) (hf : g.toInt * 1000 = c) (h1 : 1 ≤ g.toInt) (h2 : g.toInt ≤ 6) (e : spCl T j p = (-c - (p : Int), p)) : XC T r j p a b a22 a23 a24 a25 a26 ((0 : Int32), y, g, y, i16, a22, a23, a24, a25, a26) := by
  refine ⟨?_, Sm_r, Sm_r, Sm_r, Sm_r, Sm_r, fun h => ?_⟩
  · rw [e]; exact XR_bad hy hq hf h1 h2
  · rw [e] at h; exact absurd h (by show ¬ -c - (p : Int) = 0; omega)
def XB (s : Int × Nat) (a b : Int32) (c : Nat) (f2 f3 f4 f5 f6 : Nat → Int32) (z : Int32) (k sv fv vv st : Int) (t : RX) : Prop :=
  XR s a b (t.1, t.2.1, t.2.2.1, t.2.2.2.1) ∧ Sm c f2 t.2.2.2.2.2.1 ∧ Sm c f3 t.2.2.2.2.2.2.1 ∧ Sm c f4 t.2.2.2.2.2.2.2.1 ∧ Sm c f5 t.2.2.2.2.2.2.2.2.1 ∧ Sm c f6 t.2.2.2.2.2.2.2.2.2 ∧
  (s.1 = 0 → t.2.2.2.2.1 = z ∧ (t.2.2.2.2.2.1 c).toInt = k ∧ (t.2.2.2.2.2.2.1 c).toInt = sv ∧ (t.2.2.2.2.2.2.2.1 c).toInt = fv ∧ (t.2.2.2.2.2.2.2.2.1 c).toInt = vv ∧ (t.2.2.2.2.2.2.2.2.2 c).toInt = st)
theorem XB_of7 {s : Int × Nat} {c : Nat} {z : Int32} {k sv fv vv st : Int} {t : R7} (h : X7 s a b c a23 a24 a25 sv fv vv t) (hk : (a22 c).toInt = k) (h6 : (a26 c).toInt = st) : XB s a b c a22 a23 a24 a25 a26 z k sv fv vv st (t.1, t.2.1, t.2.2.1, t.2.2.2.1, z, a22, t.2.2.2.2.1, t.2.2.2.2.2.1, t.2.2.2.2.2.2, a26) :=
  ⟨h.1, Sm_r, h.2.1, h.2.2.1, h.2.2.2.1, Sm_r, fun g => ⟨rfl, hk, (h.2.2.2.2 g).1, (h.2.2.2.2 g).2.1, (h.2.2.2.2 g).2.2, h6⟩⟩
theorem x_b27 {z v : Int32} {st : Int} (hT : TXT T n) (hx : TXX T n i12 a1) (hi : i9.toInt = (r : Int)) (hj : u0.toInt = (j : Int)) (hr : r < 20) (hj2 : j < 16) (hy : y.toInt = (p : Int)) (hp : p ≤ n) (hk : a22 (16 * r + j) = v) (h6 : (a26 (16 * r + j)).toInt = st) :
    XB (spR T p) a b (16 * r + j) a22 a23 a24 a25 a26 z v.toInt 0 0 (16 * (T p - 48) + 4 * (T (p + 1) - 48) + (T (p + 2) - 48)) st (f_x3_readClause_b_27 u0 i9 i12 a b a1 y a22 a26 a23 a24 a25 z) :=
  XB_of7 (x_ranks hT hx hi hj hr hj2 hy hp) (by rw [hk]) h6
theorem x_b63 {z v : Int32} {st : Int} (hT : TXT T n) (hx : TXX T n i12 a1) (hi : i9.toInt = (r : Int)) (hj : u0.toInt = (j : Int)) (hr : r < 20) (hj2 : j < 16) (hy : y.toInt = (p : Int)) (hp : p ≤ n) (hk : a22 (16 * r + j) = v) (h6 : (a26 (16 * r + j)).toInt = st) :
    XB (spH T p) a b (16 * r + j) a22 a23 a24 a25 a26 z v.toInt (T p - 48) 0 (spN T 100 (p + 2)).2.2 st (f_x3_readClause_b_63 u0 i9 i12 a b a1 y a22 a26 a23 a24 a25 z) :=
  XB_of7 (x_hund hT hx hi hj hr hj2 hy hp) (by rw [hk]) h6
theorem x_b124 {z v : Int32} {st : Int} (hT : TXT T n) (hx : TXX T n i12 a1) (hi : i9.toInt = (r : Int)) (hj : u0.toInt = (j : Int)) (hr : r < 20) (hj2 : j < 16) (hy : y.toInt = (p : Int)) (hp : p ≤ n) (hk : a22 (16 * r + j) = v) (h6 : (a26 (16 * r + j)).toInt = st) :
    XB (spO T 99999 p) a b (16 * r + j) a22 a23 a24 a25 a26 z v.toInt 0 0 (spN T 99999 p).2.2 st (f_x3_readClause_b_124 u0 i9 i12 a b a1 y a22 a26 a23 a24 a25 z) :=
  XB_of7 (x_rest hT hx hi hj hr hj2 hy hp) (by rw [hk]) h6
theorem x_b46 {z v : Int32} {sv fv vv : Int} (hT : TXT T n) (hx : TXX T n i12 a1) (hi : i9.toInt = (r : Int)) (hj : u0.toInt = (j : Int)) (hr : r < 20) (hj2 : j < 16) (hy : y.toInt = (p : Int)) (hp : p ≤ n) (hk : a22 (16 * r + j) = v) (h3 : (a23 (16 * r + j)).toInt = sv) (h4 : (a24 (16 * r + j)).toInt = fv) (h5 : (a25 (16 * r + j)).toInt = vv) :
    XB (spT T p) a b (16 * r + j) a22 a23 a24 a25 a26 z v.toInt sv fv vv (if T p = 40 then ((p + 1 : Nat) : Int) else (a26 (16 * r + j)).toInt) (f_x3_readClause_b_46 u0 i9 i12 a b a1 v y a22 a26 a23 a24 a25 z) := by
  have V := x_tail (u1 := v) (a := a) (b := b) (a22 := a22) (a26 := a26) hT hx hi hj hr hj2 hy hp hk rfl
  exact ⟨V.1, V.2.1, Sm_r, Sm_r, Sm_r, V.2.2.1, fun _ => ⟨rfl, congrArg Int32.toInt V.2.2.2.1, h3, h4, h5, V.2.2.2.2⟩⟩
noncomputable def tl82 (t : R7) (s : R6) (z : Int32) : RX := if s.1.toInt = 0 then ((0 : Int32), s.2.1, s.2.2.1, s.2.2.2.1, z, s.2.2.2.2.1, t.2.2.2.2.1, t.2.2.2.2.2.1, t.2.2.2.2.2.2, s.2.2.2.2.2) else ((1 : Int32), s.2.1, s.2.2.1, s.2.2.2.1, z, s.2.2.2.2.1, t.2.2.2.2.1, t.2.2.2.2.2.1, t.2.2.2.2.2.2, s.2.2.2.2.2)
theorem tl82_e {t : R7} {s : R6} {z : Int32} (h : s.1 = 1 ∨ s.1 = 0) : tl82 t s z = (s.1, s.2.1, s.2.2.1, s.2.2.2.1, z, s.2.2.2.2.1, t.2.2.2.2.1, t.2.2.2.2.2.1, t.2.2.2.2.2.2, s.2.2.2.2.2) := by
  unfold tl82
  rcases h with h | h
  · rw [h, if_neg n10]
  · rw [h, if_pos y00]
noncomputable def sel82 (u0 v i9 i12 : Int32) (a1 a22 a26 : Nat → Int32) (z : Int32) (t : R7) : RX :=
  if t.1.toInt = 0 then ((0 : Int32), t.2.1, t.2.2.1, t.2.2.2.1, z, a22, t.2.2.2.2.1, t.2.2.2.2.2.1, t.2.2.2.2.2.2, a26) else tl82 t (F_x3_readTail u0 v i9 i12 t.2.1 t.2.2.1 t.2.2.2.1 a1 a22 a26) z
theorem x_b82 {z v : Int32} (hT : TXT T n) (hx : TXX T n i12 a1) (hi : i9.toInt = (r : Int)) (hj : u0.toInt = (j : Int)) (hr : r < 20) (hj2 : j < 16) (hy : y.toInt = (p : Int)) (hp : p ≤ n) (hk : a22 (16 * r + j) = v) :
    XB (seq (spW T p) (spT T)) a b (16 * r + j) a22 a23 a24 a25 a26 z v.toInt (spN T 39 p).2.2 (if T ((spN T 39 p).2.1 + 1) = 42 then 4 else T ((spN T 39 p).2.1 + 1) - 48) (spN T 79 ((spN T 39 p).2.1 + 3)).2.2 (if T (spW T p).2 = 40 then (((spW T p).2 + 1 : Nat) : Int) else (a26 (16 * r + j)).toInt) (f_x3_readClause_b_82 u0 i9 i12 a b a1 v y a22 a26 a23 a24 a25 z) := by
  have e : f_x3_readClause_b_82 u0 i9 i12 a b a1 v y a22 a26 a23 a24 a25 z = sel82 u0 v i9 i12 a1 a22 a26 z (F_x3_readTurning u0 i9 i12 y a b a1 a23 a24 a25) := rfl
  have W := x_turn (a := a) (b := b) (a23 := a23) (a24 := a24) (a25 := a25) hT hx hi hj hr hj2 hy hp
  have W2 := spW_ok hT hp
  rw [e]
  obtain ⟨s1, es1⟩ : ∃ w, (spN T 39 p).2.2 = w := ⟨_, rfl⟩
  obtain ⟨s2, es2⟩ : ∃ w, (if T ((spN T 39 p).2.1 + 1) = 42 then 4 else T ((spN T 39 p).2.1 + 1) - 48) = w := ⟨_, rfl⟩
  obtain ⟨s3, es3⟩ : ∃ w, (spN T 79 ((spN T 39 p).2.1 + 3)).2.2 = w := ⟨_, rfl⟩
  rw [es1, es2, es3] at W ⊢
  generalize F_x3_readTurning u0 i9 i12 y a b a1 a23 a24 a25 = t at W
  obtain ⟨t1, t2, t3, t4, t5, t6, t7⟩ := t
  obtain ⟨x1, x2, x3, x4, x5⟩ := W
  dsimp only at x1 x2 x3 x4 x5
  unfold sel82
  dsimp only
  rcases W2 with ⟨w1, w2, w3⟩ | w1
  · rcases x1 with ⟨g1, g2, g3, g4, g5⟩ | ⟨g1, _⟩
    · dsimp only at g2 g3 g4 g5
      rw [seq_y w1, if_neg (show ¬ t1.toInt = 0 by rw [g2]; decide), g4, g5]
      obtain ⟨z1, z2, z3⟩ := x5 w1
      have V := x_tail (u1 := v) (a := a) (b := b) (a22 := a22) (a26 := a26) hT hx hi hj hr hj2 g3 w3 hk rfl
      obtain ⟨v1, v2, v3, v4, v5⟩ := V
      have hs1 : (F_x3_readTail u0 v i9 i12 t2 a b a1 a22 a26).1 = 1 ∨ (F_x3_readTail u0 v i9 i12 t2 a b a1 a22 a26).1 = 0 := by
        rcases v1 with v1 | v1
        · exact Or.inl v1.2.1
        · exact Or.inr v1.2.1
      rw [tl82_e hs1]
      exact ⟨v1, v2, x2, x3, x4, v3, fun _ => ⟨rfl, congrArg Int32.toInt v4, z1, z2, z3, v5⟩⟩
    · omega
  · rcases x1 with ⟨g1, _⟩ | x1
    · omega
    · rw [seq_n w1.1, if_pos (show t1.toInt = 0 by rw [show t1 = 0 from x1.2.1]; decide)]
      have g2 : t1 = 0 := x1.2.1
      subst g2
      exact ⟨Or.inr x1, Sm_r, x2, x3, x4, Sm_r, fun h => absurd h (by omega)⟩
theorem st_s (k : T p = 115) : (if T (p + 1) = 40 then ((p + 1 + 1 : Nat) : Int) else (-1 : Int32).toInt) = stx T p := by
  have e : hdq T p = p + 1 := by unfold hdq; rw [if_neg (by omega)]
  unfold stx
  rw [e]
  by_cases w : T (p + 1) = 40
  · rw [if_pos w, if_pos ⟨Or.inr k, w⟩]
  · rw [if_neg w, if_neg (fun z => w z.2)]; decide
theorem st_w (k : T p = 119) : (if T (spW T (p + 1)).2 = 40 then (((spW T (p + 1)).2 + 1 : Nat) : Int) else (-1 : Int32).toInt) = stx T p := by
  have e : hdq T p = (spW T (p + 1)).2 := by unfold hdq; rw [if_pos k]
  unfold stx
  rw [e]
  by_cases w : T (spW T (p + 1)).2 = 40
  · rw [if_pos w, if_pos ⟨Or.inl k, w⟩]
  · rw [if_neg w, if_neg (fun z => w z.2)]; decide
theorem XC_of {v z : Int32} {sv fv vv st : Int} {t : RX} (hv : v.toInt = T p) (hz : z.toInt = ((j + 1 : Nat) : Int)) (e : spCl T j p = spK T p) (H : XB (spK T p) a b (16 * r + j) (upd a22 (16 * r + j) v) (upd a23 (16 * r + j) 0) (upd a24 (16 * r + j) 0) (upd a25 (16 * r + j) 0) (upd a26 (16 * r + j) (-1)) z v.toInt sv fv vv st t) (hs : sv = dS T p) (hf : fv = dF T p) (hw : vv = dV T p) (hst : st = stx T p) : XC T r j p a b a22 a23 a24 a25 a26 t := by
  unfold XC
  rw [e]
  refine ⟨H.1, Sm_t Sm_u H.2.1, Sm_t Sm_u H.2.2.1, Sm_t Sm_u H.2.2.2.1, Sm_t Sm_u H.2.2.2.2.1, Sm_t Sm_u H.2.2.2.2.2.1, fun h => ?_⟩
  obtain ⟨g1, g2, g3, g4, g5, g6⟩ := H.2.2.2.2.2.2 h
  exact ⟨by rw [g1]; exact hz, by rw [g2]; exact hv, by rw [g3]; exact hs, by rw [g4]; exact hf, by rw [g5]; exact hw, by rw [g6]; exact hst⟩
theorem x_clause (hT : TXT T n) (hx : TXX T n i12 a1) (hi : i9.toInt = (r : Int)) (hj : u0.toInt = (j : Int)) (hr : r < 20) (hy : y.toInt = (p : Int)) (hp : p ≤ n) :
    XC T r j p a b a22 a23 a24 a25 a26 (F_x3_readClause u0 i9 i12 y a b i16 a1 a22 a23 a24 a25 a26) := by
  have h160 := hT.1
  have hs := sg_of hT hx hy
  by_cases hk : T p = 119 ∨ T p = 115 ∨ T p = 107 ∨ T p = 118 ∨ T p = 111
  · have hpn := T_in hT (p := p) (by omega)
    have e5 : F_x3_readClause u0 i9 i12 y a b i16 a1 a22 a23 a24 a25 a26 = f_x3_readClause_j5 u0 i9 i12 y a b i16 a1 a22 a23 a24 a25 a26 (F_x3_sign i12 y a1) := by
      rw [E_x3_readClause]
      by_cases k1 : (F_x3_sign i12 y a1).toInt = 119
      · rw [if_pos k1]
      · rw [if_neg k1]
        by_cases k2 : (F_x3_sign i12 y a1).toInt = 115
        · rw [if_pos k2]
        · rw [if_neg k2]
          by_cases k3 : (F_x3_sign i12 y a1).toInt = 107
          · rw [if_pos k3]
          · rw [if_neg k3]
            by_cases k4 : (F_x3_sign i12 y a1).toInt = 118
            · rw [if_pos k4]
            · rw [if_neg k4, if_pos (by omega)]
    have hv : (F_x3_sign i12 y a1).toInt = T p := by omega
    rw [e5]
    generalize F_x3_sign i12 y a1 = v at hv
    by_cases hj2 : j < 16
    · have e : spCl T j p = spK T p := by unfold spCl; rw [if_pos hk, if_neg (by omega)]
      have hy1 := suc_of hy (by omega)
      have hj1 := suc_of hj (by omega)
      rw [E_x3_readClause_j5, if_pos (show u0.toInt < 16 by omega), x_putC hi hj hr hj2, x_putM hi hj hr hj2]
      dsimp only
      by_cases k3 : T p = 107
      · rw [if_pos (show v.toInt = 107 by omega)]
        have ek : spK T p = spR T (p + 1) := by unfold spK; rw [if_neg (by omega), if_neg (by omega), if_pos k3]
        refine XC_of hv hj1 e (by rw [ek]; exact x_b27 (st := -1) hT hx hi hj hr hj2 hy1 (by omega) upd_s (by rw [upd_s]; decide)) ?_ ?_ ?_ (by unfold stx; rw [if_neg (by omega)])
        · unfold dS; rw [if_neg (by omega), if_neg (by omega)]
        · unfold dF; rw [if_neg (by omega)]
        · unfold dV; rw [if_neg (by omega), if_pos k3]
      · rw [if_neg (show ¬ v.toInt = 107 by omega)]
        by_cases k2 : T p = 115
        · rw [if_pos (show v.toInt = 115 by omega)]
          have ek : spK T p = spT T (p + 1) := by unfold spK; rw [if_neg (by omega), if_pos k2]
          refine XC_of (sv := 0) (fv := 0) (vv := 0) hv hj1 e (by rw [ek]; exact x_b46 hT hx hi hj hr hj2 hy1 (by omega) upd_s (by rw [upd_s]; exact c0) (by rw [upd_s]; exact c0) (by rw [upd_s]; exact c0)) ?_ ?_ ?_ (by rw [upd_s]; exact st_s k2)
          · unfold dS; rw [if_neg (by omega), if_neg (by omega)]
          · unfold dF; rw [if_neg (by omega)]
          · unfold dV; rw [if_neg (by omega), if_neg (by omega), if_neg (by omega), if_neg (by omega)]
        · rw [if_neg (show ¬ v.toInt = 115 by omega)]
          by_cases k4 : T p = 118
          · rw [if_pos (show v.toInt = 118 by omega)]
            have ek : spK T p = spH T (p + 1) := by unfold spK; rw [if_neg (by omega), if_neg k2, if_neg k3, if_pos k4]
            refine XC_of hv hj1 e (by rw [ek]; exact x_b63 (st := -1) hT hx hi hj hr hj2 hy1 (by omega) upd_s (by rw [upd_s]; decide)) ?_ ?_ ?_ (by unfold stx; rw [if_neg (by omega)])
            · unfold dS; rw [if_neg (by omega), if_pos k4]
            · unfold dF; rw [if_neg (by omega)]
            · unfold dV; rw [if_neg (by omega), if_neg (by omega), if_pos k4]
          · rw [if_neg (show ¬ v.toInt = 118 by omega)]
            by_cases k1 : T p = 119
            · rw [if_pos (show v.toInt = 119 by omega)]
              have ek : spK T p = seq (spW T (p + 1)) (spT T) := by unfold spK; rw [if_pos k1]
              refine XC_of hv hj1 e (by rw [ek]; exact x_b82 hT hx hi hj hr hj2 hy1 (by omega) upd_s) ?_ ?_ ?_ (by rw [upd_s]; exact st_w k1)
              · unfold dS; rw [if_pos k1]
              · unfold dF dG; rw [if_pos k1]
              · unfold dV; rw [if_pos k1]
            · have k5 : T p = 111 := by omega
              rw [if_neg (show ¬ v.toInt = 119 by omega)]
              have ek : spK T p = spO T 99999 (p + 1) := by unfold spK; rw [if_neg k1, if_neg k2, if_neg k3, if_neg k4]
              refine XC_of hv hj1 e (by rw [ek]; exact x_b124 (st := -1) hT hx hi hj hr hj2 hy1 (by omega) upd_s (by rw [upd_s]; decide)) ?_ ?_ ?_ (by unfold stx; rw [if_neg (by omega)])
              · unfold dS; rw [if_neg (by omega), if_neg (by omega)]
              · unfold dF; rw [if_neg (by omega)]
              · unfold dV; rw [if_neg (by omega), if_neg (by omega), if_neg (by omega), if_pos k5]
    · rw [E_x3_readClause_j5, if_neg (by omega)]
      exact x_cl_bad (g := 4) (c := 4000) hy (by omega) (by decide) (by decide) (by decide) (by unfold spCl; rw [if_pos hk, if_pos (by omega)])
  · rw [E_x3_readClause, if_neg (by omega), if_neg (by omega), if_neg (by omega), if_neg (by omega), if_neg (by omega)]
    exact x_cl_bad (g := 1) (c := 1000) hy (by omega) (by decide) (by decide) (by decide) (by unfold spCl; rw [if_neg hk])
end XC3
