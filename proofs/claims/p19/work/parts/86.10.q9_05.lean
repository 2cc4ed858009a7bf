section MCL2
variable {T : Nat → Int} {n p q c j : Nat} {i6 i9 i10 i11 i12 i14 i15 i16 i17 v l9 l11 : Int32} {a1 a19 a20 a21 a22 a27 b9 b0 b1 b2 : Nat → Int32}
theorem m_clause {r : Nat} (hT : TXT T n) (hx : TXM T n i10 a1) (hg : i11.toInt = 0) (hi : i6.toInt = (r : Int)) (hr : r < 20) (hj : i12.toInt = (j : Int)) (hj16 : j ≤ 16) (hy : i9.toInt = (p : Int)) (hp : p ≤ n) :
    YC T j p (16 * r + j) a19 a20 a21 a22 (F_m12_clause i6 i9 i10 i11 i12 i14 i15 i16 i17 a1 a19 a20 a21 a22 a27) := by
  have h160 := hT.1
  have q0 := hr_of hT hx hy
  have e1 := c1
  have c4 : (4 : Int32).toInt = 4 := by decide
  have bad6 : ∀ (v x : Int32), x.toInt ≠ 0 → f_m12_clause_j6 i6 i9 i10 i12 i14 i15 i16 i17 a1 a19 a20 a21 a22 a27 v x = (i9, x, i12, i14, i15, i16, i17, a19, a20, a21, a22, a27) := by
    intro v x h
    rw [E_m12_clause_j6, good0 h, if_neg n00]
  by_cases hk : T p = 119 ∨ T p = 115 ∨ T p = 107 ∨ T p = 118 ∨ T p = 111
  · have hpn := T_in hT (p := p) (by omega)
    have hy1 := suc_of hy (by omega)
    have e5 : F_m12_clause i6 i9 i10 i11 i12 i14 i15 i16 i17 a1 a19 a20 a21 a22 a27 = f_m12_clause_j292 i6 i9 i10 i11 i12 i14 i15 i16 i17 a1 a19 a20 a21 a22 a27 (F_m12_here i9 i10 a1) := by
      rw [E_m12_clause]
      by_cases k1 : (F_m12_here i9 i10 a1).toInt = 119
      · rw [if_pos k1]
      · rw [if_neg k1]
        by_cases k2 : (F_m12_here i9 i10 a1).toInt = 115
        · rw [if_pos k2]
        · rw [if_neg k2]
          by_cases k3 : (F_m12_here i9 i10 a1).toInt = 107
          · rw [if_pos k3]
          · rw [if_neg k3]
            by_cases k4 : (F_m12_here i9 i10 a1).toInt = 118
            · rw [if_pos k4]
            · rw [if_neg k4, if_pos (by omega)]
    rw [e5, E_m12_clause_j292]
    generalize F_m12_here i9 i10 a1 = v at q0
    unfold YC
    by_cases hj2 : j < 16
    · have e : spCl T j p = spK T p := by unfold spCl; rw [if_pos hk, if_neg (by omega)]
      have c16 : (16 : Int32).toInt = 16 := by decide
      have m1 : ((16 : Int32) * i6).toInt = 16 * (r : Int) := toInt_mul c16 hi rfl (by omega) (by omega)
      have m2 := toInt_add m1 hj (by omega) (by omega)
      have hz : (16 * i6 + i12).toInt = ((16 * r + j : Nat) : Int) := by omega
      have hj1 := suc_of hj (by omega)
      rw [if_pos (show i12.toInt ≠ 16 by omega), E_m12_clause_j6, good1 hg, if_pos y10, nc hz, e]
      unfold spK
      by_cases k1 : T p = 119
      · rw [if_neg (show ¬ v.toInt ≠ 119 by omega), if_pos k1]
        have W := m_must (p0 := 16 * i6 + i12) (c := 16 * r + j) (a20 := a20) (a21 := a21) (a22 := a22) hT hx hg hz hy1 (by omega)
        have W2 := spW_ok hT (show p + 1 ≤ n by omega)
        generalize F_m12_readsMust (16 * i6 + i12) (i9 + 1) i10 i11 a1 a20 a21 a22 = t at W
        obtain ⟨t1, t2, t3, t4, t5⟩ := t
        obtain ⟨W, s0, s1, s2⟩ := W
        dsimp only
        rcases W with ⟨w1, w2⟩ | ⟨w1, w2, w3, w4, w5, w6⟩
        · have w2' : t2.toInt = (spW T (p + 1)).1 := w2
          rw [seq_n w1, j30_bad (by omega)]
          exact ⟨Or.inl ⟨w1, w2⟩, Sm_u, s0, s1, s2⟩
        · have w3' : t2 = i11 := w3
          have w2' : t1.toInt = ((spW T (p + 1)).2 : Int) := w2
          clear w2 w3
          subst w3'
          have wn : (spW T (p + 1)).2 ≤ n := by
            rcases W2 with ⟨_, _, z⟩ | z
            · exact z
            · omega
          rw [seq_y w1]
          obtain ⟨J, z1, z2, z3, z4⟩ := j30_tail (i12 := i12) (i14 := i14) (i15 := i15) (i16 := i16) (i17 := i17) (a27 := a27) (v := v) (b9 := upd a19 (16 * r + j) v) (b0 := t3) (b1 := t4) (b2 := t5) hT hx hg (Or.inl (by omega)) w2' wn hj hj2 rfl
          rw [z1, z2, z3, z4]
          refine ⟨?_, Sm_u, s0, s1, s2⟩
          rcases J with J | ⟨J1, J2, J3, J4⟩
          · exact Or.inl J
          · refine Or.inr ⟨J1, J2, J3, J4, by rw [upd_s]; exact q0, fun _ => ⟨?_, ?_, ?_⟩, fun h => by omega, fun h => by omega, fun h => by omega⟩
            · unfold dS; rw [if_pos k1]; exact w4
            · unfold dG; exact w5
            · unfold dV; rw [if_pos k1]; exact w6
      · rw [if_pos (show v.toInt ≠ 119 by omega), if_neg k1]
        by_cases k3 : T p = 107
        · rw [if_neg (show ¬ v.toInt ≠ 107 by omega), if_neg (show ¬ T p = 115 by omega), if_pos k3]
          have W := m_rank (p0 := 16 * i6 + i12) (c := 16 * r + j) (a20 := a20) (a21 := a21) (a22 := a22) hT hx hg hz hy1 (by omega)
          generalize F_m12_readsRank (16 * i6 + i12) (i9 + 1) i10 i11 a1 a20 a21 a22 = t at W
          obtain ⟨t1, t2, t3, t4, t5⟩ := t
          obtain ⟨W, s0, s1, s2⟩ := W
          dsimp only
          rcases W with ⟨w1, w2⟩ | ⟨w1, w2, w3, w4, w5, w6⟩
          · have w2' : t2.toInt = (spR T (p + 1)).1 := w2
            rw [j30_bad (by omega)]
            exact ⟨Or.inl ⟨w1, w2⟩, Sm_u, s0, s1, s2⟩
          · have w3' : t2 = i11 := w3
            rw [w3', j30_no hg (by omega) (by omega)]
            exact ⟨Or.inr ⟨w1, w2, hg, hj1, by show (upd a19 _ v _).toInt = _; rw [upd_s]; exact q0, fun h => by omega, fun _ => ⟨w4, w5, w6⟩, fun h => by omega, fun h => by omega⟩, Sm_u, s0, s1, s2⟩
        · rw [if_pos (show v.toInt ≠ 107 by omega)]
          by_cases k4 : T p = 118
          · rw [if_neg (show ¬ v.toInt ≠ 118 by omega), if_neg (show ¬ T p = 115 by omega), if_neg k3, if_pos k4]
            have q1 := hr_of hT hx hy1
            have c48' := c48
            have f11 := fl0 (f := 1) (a := i9 + 1) hg (by omega) (by omega)
            unfold spH
            by_cases w : 48 ≤ T (p + 1) ∧ T (p + 1) ≤ 49
            · have hpn1 := T_in hT (p := p + 1) (by omega)
              have hy2 := suc_of hy1 (by omega)
              have q2 := hr_of hT hx hy2
              have c46 : (46 : Int32).toInt = 46 := by decide
              have f12 := fl0 (f := 1) (a := i9 + 1 + 1) hg (by omega) (by omega)
              have e6 : (if (F_m12_here (i9 + 1) i10 a1).toInt = 48 then f_m12_clause_j162 i10 i12 i14 i15 i16 i17 a1 a20 a21 a22 a27 v (16 * i6 + i12) (upd a19 (16 * r + j) v) (i9 + 1) i11 else (if (F_m12_here (i9 + 1) i10 a1).toInt = 49 then f_m12_clause_j162 i10 i12 i14 i15 i16 i17 a1 a20 a21 a22 a27 v (16 * i6 + i12) (upd a19 (16 * r + j) v) (i9 + 1) i11 else f_m12_clause_j162 i10 i12 i14 i15 i16 i17 a1 a20 a21 a22 a27 v (16 * i6 + i12) (upd a19 (16 * r + j) v) (i9 + 1) (F_m12_fails 1 (i9 + 1) i11))) = f_m12_clause_j162 i10 i12 i14 i15 i16 i17 a1 a20 a21 a22 a27 v (16 * i6 + i12) (upd a19 (16 * r + j) v) (i9 + 1) i11 := by
                by_cases w1 : (F_m12_here (i9 + 1) i10 a1).toInt = 48
                · rw [if_pos w1]
                · rw [if_neg w1, if_pos (by omega)]
              rw [e6, if_neg (fun z => z w), E_m12_clause_j162, good1 hg, if_neg n10, nc hz]
              have es := toInt_sub q1 c48 (by omega) (by omega)
              by_cases w2 : T (p + 1 + 1) = 46
              · have hpn2 := T_in hT (p := p + 1 + 1) (by omega)
                have hy3 := suc_of hy2 (by omega)
                rw [must1 (by omega), if_neg (fun z => z w2), E_m12_clause_j183]
                dsimp only
                rw [good1 hg, if_neg n10, nc hz]
                have c100 : (100 : Int32).toInt = 100 := by decide
                have N := mnum (p0 := 100) hT hx hy3 (by omega) (by rw [c100]; decide) hg
                rw [c100] at N
                generalize F_m12_readsNumber 100 (i9 + 1 + 1 + 1) i10 i11 a1 = t at N ⊢
                obtain ⟨t1, t2, t3⟩ := t
                dsimp only at N ⊢
                rcases N with ⟨m1, m2, m3, m4⟩ | ⟨m1, m2⟩
                · rw [j30_no m4 (by omega) (by omega)]
                  refine ⟨Or.inr ⟨m1, m3, m4, hj1, by show (upd a19 _ v _).toInt = _; rw [upd_s]; exact q0, fun h => by omega, fun h => by omega, fun _ => ⟨?_, ?_⟩, fun h => by omega⟩, Sm_u, Sm_u, Sm_u, Sm_r⟩
                  · show (upd a20 _ _ _).toInt = _; rw [upd_s]; unfold dS; rw [if_neg k1, if_pos k4]; exact es
                  · show (upd a21 _ _ _).toInt = _; rw [upd_s]; unfold dV; rw [if_neg k1, if_neg k3, if_pos k4]; exact m2
                · rw [j30_bad (by omega)]
                  exact ⟨Or.inl ⟨m1, m2⟩, Sm_u, Sm_u, Sm_u, Sm_r⟩
              · rw [must0 (by omega), if_pos w2, E_m12_clause_j183]
                dsimp only
                rw [good0 (by omega), if_pos y00, j30_bad (by omega)]
                exact ⟨Or.inl ⟨by show -1000 - ((p + 1 + 1 : Nat) : Int) < 0; omega, by show (F_m12_fails 1 (i9 + 1 + 1) i11).toInt = -1000 - ((p + 1 + 1 : Nat) : Int); omega⟩, Sm_u, Sm_u, Sm_r, Sm_r⟩
            · rw [if_pos w, if_neg (show ¬ (F_m12_here (i9 + 1) i10 a1).toInt = 48 by omega), if_neg (show ¬ (F_m12_here (i9 + 1) i10 a1).toInt = 49 by omega), E_m12_clause_j162, good0 (by omega), if_pos y00, E_m12_clause_j183, good0 (by omega), if_pos y00, j30_bad (by omega), nc hz]
              exact ⟨Or.inl ⟨by show -1000 - ((p + 1 : Nat) : Int) < 0; omega, by show (F_m12_fails 1 (i9 + 1) i11).toInt = -1000 - ((p + 1 : Nat) : Int); omega⟩, Sm_u, Sm_u, Sm_r, Sm_r⟩
          · rw [if_pos (show v.toInt ≠ 118 by omega)]
            by_cases k5 : T p = 111
            · rw [if_neg (show ¬ v.toInt ≠ 111 by omega), if_neg (show ¬ T p = 115 by omega), if_neg k3, if_neg k4]
              have c9 : (99999 : Int32).toInt = 99999 := by decide
              have N := mnum (p0 := 99999) hT hx hy1 (by omega) (by rw [c9]; decide) hg
              rw [c9] at N
              generalize F_m12_readsNumber 99999 (i9 + 1) i10 i11 a1 = t at N ⊢
              obtain ⟨t1, t2, t3⟩ := t
              dsimp only at N ⊢
              rcases N with ⟨m1, m2, m3, m4⟩ | ⟨m1, m2⟩
              · rw [j30_no m4 (by omega) (by omega)]
                refine ⟨Or.inr ⟨m1, m3, m4, hj1, by show (upd a19 _ v _).toInt = _; rw [upd_s]; exact q0, fun h => by omega, fun h => by omega, fun h => by omega, fun _ => ?_⟩, Sm_u, Sm_u, Sm_r, Sm_r⟩
                show (upd a20 _ _ _).toInt = _; rw [upd_s]; unfold dV; rw [if_neg k1, if_neg k3, if_neg k4, if_pos k5]; exact m2
              · rw [j30_bad (by omega)]
                exact ⟨Or.inl ⟨m1, m2⟩, Sm_u, Sm_u, Sm_r, Sm_r⟩
            · have k2 : T p = 115 := by omega
              rw [if_pos (show v.toInt ≠ 111 by omega), if_pos k2]
              obtain ⟨J, z1, z2, z3, z4⟩ := j30_tail (i12 := i12) (i14 := i14) (i15 := i15) (i16 := i16) (i17 := i17) (a27 := a27) (v := v) (b9 := upd a19 (16 * r + j) v) (b0 := a20) (b1 := a21) (b2 := a22) hT hx hg (Or.inr (by omega)) hy1 (show p + 1 ≤ n by omega) hj hj2 rfl
              rw [z1, z2, z3, z4]
              refine ⟨?_, Sm_u, Sm_r, Sm_r, Sm_r⟩
              rcases J with J | ⟨J1, J2, J3, J4⟩
              · exact Or.inl J
              · exact Or.inr ⟨J1, J2, J3, J4, by rw [upd_s]; exact q0, fun h => by omega, fun h => by omega, fun h => by omega, fun h => by omega⟩
    · have f4 := fl0 (f := 4) (a := i9) hg (by omega) (by omega)
      have e : spCl T j p = (-4000 - (p : Int), p) := by unfold spCl; rw [if_pos hk, if_pos (by omega)]
      rw [if_neg (show ¬ i12.toInt ≠ 16 by omega), bad6 _ _ (by omega), e]
      exact ⟨Or.inl ⟨by show -4000 - (p : Int) < 0; omega, by show (F_m12_fails 4 i9 i11).toInt = -4000 - (p : Int); omega⟩, Sm_r, Sm_r, Sm_r, Sm_r⟩
  · have f1 := fl0 (f := 1) (a := i9) hg (by omega) (by omega)
    have e : spCl T j p = (-1000 - (p : Int), p) := by unfold spCl; rw [if_neg hk]
    rw [E_m12_clause, if_neg (by omega), if_neg (by omega), if_neg (by omega), if_neg (by omega), if_neg (by omega), bad6 _ _ (by omega)]
    unfold YC
    rw [e]
    exact ⟨Or.inl ⟨by show -1000 - (p : Int) < 0; omega, by show (F_m12_fails 1 i9 i11).toInt = -1000 - (p : Int); omega⟩, Sm_r, Sm_r, Sm_r, Sm_r⟩
end MCL2
